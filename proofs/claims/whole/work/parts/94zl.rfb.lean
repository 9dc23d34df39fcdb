/-! the reference: what a text may touch -/
def FrR (h h' : aH) : Prop := ∀ c k, ¬ (c = 73 ∨ (c = 68 ∧ 12 ≤ k ∧ k ≤ 17)) → h'.1 c k = h.1 c k ∧ h'.2.1 c k = h.2.1 c k
set_option maxRecDepth 100000 in
set_option maxHeartbeats 400000 in
theorem FrR.refl (h : aH) : FrR h h := fun _ _ _ => ⟨rfl, rfl⟩
set_option maxRecDepth 100000 in
set_option maxHeartbeats 400000 in
theorem FrR.trans {a b c : aH} (h1 : FrR a b) (h2 : FrR b c) : FrR a c := fun x k p => ⟨(h2 x k p).1.trans (h1 x k p).1, (h2 x k p).2.trans (h1 x k p).2⟩
set_option maxRecDepth 100000 in
set_option maxHeartbeats 400000 in
theorem FrR.tk (h : aH) (s e t : Nat) : FrR h (tkR h s e t) := fun c k p => by
  unfold tkR
  exact ⟨by rw [sI_n (by omega), sI_n (by omega), sI_n (by omega), sI_n (by omega)], rfl⟩
set_option maxRecDepth 100000 in
set_option maxHeartbeats 400000 in
theorem FrR.wr (h : aH) (a b : Int32) : FrR h (sI (sI h 68 16 a) 68 17 b) := fun c k p => ⟨by rw [sI_n (by omega), sI_n (by omega)], rfl⟩
def PR (h : aH) (T : Nat → Nat) (n s : Nat) : Prop := WR h T n s (tE T n s) (tT T n s) ∧ s ≤ n ∧ h.1 68 16 = nI 0
def PF (h : aH) (T : Nat → Nat) (n : Nat) (f : Nat × Nat) : Prop := (0 < f.1 ∧ f.1 < 10) ∧ h.1 68 16 = nI f.1 ∧ h.1 68 17 = nI f.2 ∧ ∃ s, WR h T n s (tE T n s) (tT T n s) ∧ s ≤ n
set_option maxRecDepth 100000 in
set_option maxHeartbeats 400000 in
theorem WR.wr {h : aH} {T : Nat → Nat} {n s e t : Nat} (C : WR h T n s e t) (a b : Int32) : WR (sI (sI h 68 16 a) 68 17 b) T n s e t := by
  obtain ⟨c0, c1, c2, c3, c4⟩ := C
  exact ⟨(c0.si (by omega) _).si (by omega) _, by rw [sI_n (by omega), sI_n (by omega)]; exact c1, by rw [sI_n (by omega), sI_n (by omega)]; exact c2, by rw [sI_n (by omega), sI_n (by omega)]; exact c3, by rw [sI_n (by omega), sI_n (by omega)]; exact c4⟩
set_option maxRecDepth 100000 in
set_option maxHeartbeats 400000 in
theorem PF_wr {h : aH} {T : Nat → Nat} {n s k : Nat} (p : Nat) (C : PR h T n s) (h1 : 0 < k) (h2 : k < 10) : PF (sI (sI h 68 16 (nI k)) 68 17 (nI p)) T n (k, p) := ⟨⟨h1, h2⟩, by rw [sI_n (by omega), sI_e], sI_e .., s, C.1.wr _ _, C.2.1⟩
set_option maxRecDepth 100000 in
set_option maxHeartbeats 400000 in
theorem PR_tk {h : aH} {T : Nat → Nat} {n s : Nat} (C : PR h T n s) : PR (tkR h (tS T n (tE T n s)) (tE T n (tS T n (tE T n s))) (tT T n (tS T n (tE T n s)))) T n (nxt T n s) := ⟨WR_tk C.1.1, nxt_le C.2.1, by unfold tkR; rw [sI_n (by omega), sI_n (by omega), sI_n (by omega), sI_n (by omega)]; exact C.2.2⟩
set_option maxRecDepth 100000 in
set_option maxHeartbeats 400000 in
theorem tk73 (h : aH) (s e t : Nat) : (tkR h s e t).1 73 = h.1 73 := by
  funext k
  unfold tkR
  rw [sI_n (by omega), sI_n (by omega), sI_n (by omega), sI_n (by omega)]
set_option maxRecDepth 100000 in
set_option maxHeartbeats 400000 in
theorem wr73 (h : aH) (a b : Int32) : (sI (sI h 68 16 a) 68 17 b).1 73 = h.1 73 := by
  funext k
  rw [sI_n (by omega), sI_n (by omega)]
/-- what a reading piece leaves -/
def RP (T : Nat → Nat) (n : Nat) (h : aH) (r : Sum (Nat × Nat) (Nat × (Nat → Int32))) (Q : aH → Prop) : Prop := match r with
  | .inl f => ∃ h', Q h' ∧ FrR h h' ∧ PF h' T n f
  | .inr a => ∃ h', Q h' ∧ FrR h h' ∧ PR h' T n a.1 ∧ h'.1 73 = a.2
set_option maxRecDepth 100000 in
set_option maxHeartbeats 400000 in
theorem RP_tr {T : Nat → Nat} {n : Nat} {h h1 : aH} (F : FrR h h1) {r : Sum (Nat × Nat) (Nat × (Nat → Int32))} {Q Q' : aH → Prop} (i : ∀ h', Q h' → Q' h') (H : RP T n h1 r Q) : RP T n h r Q' := by
  match r, H with
  | .inl f, ⟨h', e, F', x⟩ => exact ⟨h', i h' e, F.trans F', x⟩
  | .inr a, ⟨h', e, F', x⟩ => exact ⟨h', i h' e, F.trans F', x⟩
/-! numbers and signs of the reference -/
set_option maxRecDepth 100000 in
set_option maxHeartbeats 400000 in
theorem k148i {h : aH} {T : Nat → Nat} {n s m : Nat} {f : Nat × Nat} (C : PR h T n s) (e : numP T n m s = .inl f) (L d : Nat) : ∃ v h', call (d + 3) 148 [.ref 68, .int (nI 0), .int (nI m)] (S0 L) h = some (some (.int (nI v)), S0 L, h') ∧ PF h' T n f ∧ FrR h h' ∧ h'.1 73 = h.1 73 := by
  rcases num_l e with ⟨q, rfl⟩ | ⟨q, q2, rfl⟩
  · exact ⟨_, _, k148_n C.1 (wd0 C.2.1) q C.2.2 _ L d, PF_wr s C (by omega) (by omega), FrR.wr _ _ _, wr73 ..⟩
  · have C1 := C.1
    have D1 := wd0 (T := T) C.2.1
    rw [q] at C1 D1
    exact ⟨_, _, k148_m C1 D1 C.2.2 q2 L d, PF_wr s C (by omega) (by omega), FrR.wr _ _ _, wr73 ..⟩
set_option maxRecDepth 100000 in
set_option maxHeartbeats 400000 in
theorem k148r {h : aH} {T : Nat → Nat} {n s m : Nat} {a : Nat × Nat} (C : PR h T n s) (hm : m < 100) (e : numP T n m s = .inr a) (L d : Nat) : ∃ h', call (d + 3) 148 [.ref 68, .int (nI 0), .int (nI m)] (S0 L) h = some (some (.int (nI a.1)), S0 L, h') ∧ PR h' T n a.2 ∧ FrR h h' ∧ h'.1 73 = h.1 73 ∧ a.1 ≤ m := by
  obtain ⟨q, q2, rfl⟩ := num_r e
  have C1 := C.1
  have D1 := wd0 (T := T) C.2.1
  rw [q] at C1 D1
  exact ⟨_, k148_y C1 D1 C.2.2 q2 hm L d, PR_tk C, FrR.tk _ _ _ _, tk73 .., q2⟩
set_option maxRecDepth 100000 in
set_option maxHeartbeats 400000 in
theorem k149i {h : aH} {T : Nat → Nat} {n s : Nat} {f : Nat × Nat} (C : PR h T n s) (e : sgnP T n s = .inl f) (L d : Nat) : ∃ h', call (d + 3) 149 [.ref 68] (S0 L) h = some (none, S0 L, h') ∧ PF h' T n f ∧ FrR h h' := by
  unfold sgnP at e
  by_cases q : tT T n s = 3
  · rw [br_pos q] at e; cases e
  · rw [br_neg q] at e
    rw [← Sum.inl.inj e]
    exact ⟨_, k149_n C.1 (tT_4 _ _ _) q C.2.2 L d, PF_wr s C (by omega) (by omega), FrR.wr _ _ _⟩
set_option maxRecDepth 100000 in
set_option maxHeartbeats 400000 in
theorem k149r {h : aH} {T : Nat → Nat} {n s s' : Nat} (C : PR h T n s) (e : sgnP T n s = .inr s') (L d : Nat) : ∃ h', call (d + 3) 149 [.ref 68] (S0 L) h = some (none, S0 L, h') ∧ PR h' T n s' ∧ FrR h h' ∧ h'.1 73 = h.1 73 := by
  unfold sgnP at e
  by_cases q : tT T n s = 3
  · rw [br_pos q] at e
    rw [← Sum.inr.inj e]
    have C1 := C.1
    rw [q] at C1
    exact ⟨_, k149_y C1 (tE_le C.2.1).2 C.2.2 L d, PR_tk C, FrR.tk _ _ _ _, tk73 ..⟩
  · rw [br_neg q] at e; cases e
/-! a row: the reference -/
set_option maxRecDepth 100000 in
set_option maxHeartbeats 400000 in
theorem z152 {T : Nat → Nat} {n s e hg : Nat} (hse : s ≤ e) (hen : e ≤ n) (n3 : n ≤ 300) (h7 : e - s ≤ 7) (h6 : hg < 6) (hc : ∀ j, s ≤ j → j < e → ceB (T j)) (L d : Nat) : ∀ (m k : Nat), k + m = e → s ≤ k → ∀ h : aH, h.1 73 1 = nI hg → (∀ i, i < n → h.1 74 i = nI (T i)) → ev d 152 54 [.ref 68, .int (nI s), .int (nI e), .int (nI k)] [] (S0 L) h = ev d 152 109 [.ref 68, .int (nI s), .int (nI e), .int (nI e)] [] (S0 L) (uI h 73 (fun j => if 4 + 7 * hg + (k - s) ≤ j ∧ j < 4 + 7 * hg + (e - s) then ltI (T (s + (j - (4 + 7 * hg)))) else h.1 73 j)) := by
  intro m
  induction m with
  | zero =>
    intro k hk hs h e1 et
    have : k = e := by omega
    subst this
    rw [u152_54]
    simp (disch := first | assumption | omega) only [u152_0, u152_1, u152_2, u152_4, u152_7, u152_8, u152_11, u152_12, u152_13, u152_16, u152_17, u152_18, u152_21, u152_24, u152_25, u152_26, u152_29, u152_32, u152_33, u152_36, u152_37, u152_40, u152_43, u152_44, u152_47, u152_48, u152_49, u152_50, u152_51, u152_52, u152_53, u152_55, u152_56, u152_59, u152_60, u152_63, u152_64, u152_66, u152_67, u152_70, u152_71, u152_72, u152_73, u152_74, u152_75, u152_76, u152_77, u152_78, u152_79, u152_82, u152_83, u152_84, u152_86, u152_89, u152_90, u152_93, u152_94, u152_97, u152_98, u152_99, u152_101, u152_102, u152_103, u152_106, u152_110, u152_113, u152_114, u152_115, u152_116, u152_117, u152_118, u152_119, ↓br_eq, ↓reduceIte, gd_true, ls_0, ls_1i, ls_1r, ls_1n, ls_1l, ls_2, ls2_eq, List.set_cons_zero, List.set_cons_succ, rf_s, cs_nil, cs_int, cs_ref, cs_long, Option.bind_some, Option.toList_some, Option.toList_none, List.nil_append, List.cons_append, Nat.reduceAdd, Nat.reduceSub, Nat.reduceMul, Nat.reduceLT, Nat.reduceLeDiff, Nat.reduceEqDiff, Int32.reduceAdd, Int32.reduceSub, Int32.reduceMul, Int32.reduceLT, Int32.reduceLE, Int32.reduceToInt, Int32.reduceToNatClampNeg, Int.reduceLE, Int.reduceLT, Int.reduceSub, Int.reduceToNat, and_self, true_and, and_true, or_true, true_or, false_or, or_false, false_and, and_false, not_false_eq_true, not_true_eq_false, eq_self, ↓li_m1, li_0, li_1, li_2, li_3, li_4, li_5, li_6, li_7, li_8, li_10, li_11, li_12, li_13, li_14, li_16, li_20, li_21, li_22, li_23, li_24, li_26, li_32, li_40, li_42, li_46, li_48, li_56, li_57, li_59, li_64, li_72, li_97, li_100, li_102, li_106, li_110, li_119, li_122, li_127, li_194, li_224, li_255, li_300, li_320, li_388, li_500, li_832, li_1000, ltT, ltF, leT, leF, eqT, eqF, eqmF, eqmF2, mlt, mle, mlt2, mle2, inT, cl, sbN, adm, mad, nI_add, pk_mul, dvN, rmN, rmN2, ofN, bo1, bo0, xle, xlt, xnl, xnt, xgt, xgt2, xge, xge0, xmo, dmN, kS0, lS0, kS1, lS1, kS2, lS2, kS3, lS3, kS4, lS4, kS5, lS5, kS6, lS6, kS7, lS7, kS8, fS8_0, fS8_1, fS8_2, fS8_3, fS8_4, fS8_5, fS8_6, fS8_7, fS8_8, fS8_9, kS9, lS9, fS9_0, fS9_1, fS9_2, fS9_3, fS9_4, fS9_5, fS9_6, fS9_7, kS10, fS10_0, fS10_1, kS11, fS11_0, kS12, lS12, kS13, fS13_5, fS13_6, fS13_7, fS13_8, fS13_9, kS14, lS14, kS15, lS15, kS16, lS16, kS17, lS17, kS18, lS18, kS19, fS19_5, fS19_6, fS19_7, fS19_8, fS19_9, kS20, lS20, kS21, lS21, kS22, lS22, kS23, lS23, kS24, lS24, kS25, lS25, fS25_0, fS25_1, kS26, kS27, fS27_3, fS27_4, fS27_5, kS28, lS28, kS29, lS29, kS30, lS30, kS31, fS31_3, fS31_4, kS32, lS32, kS33, lS33, kS34, fS34_3, fS34_4, kS35, lS35, kS36, lS36, kS37, kS38, fS38_0, kS39, lS39, kS40, fS40_0, kS41, lS41, kS42, fS42_0, kS43, lS43, kS44, fS44_0, kS45, lS45, kS46, fS46_0, kS47, lS47, kS48, fS48_0, kS49, lS49, kS50, fS50_0, kS51, lS51, kS52, fS52_0, kS53, lS53, kS54, fS54_0, kS55, lS55, kS56, fS56_5, fS56_6, fS56_7, fS56_8, fS56_9, kS57, lS57, kS58, lS58, kS59, lS59, kS60, lS60, kS61, lS61, kS62, fS62_5, fS62_6, fS62_7, fS62_8, fS62_9, kS63, lS63, kS64, lS64, kS65, lS65, kS66, lS66, kS67, lS67, kS68, fS68_2, fS68_3, fS68_4, fS68_5, fS68_6, fS68_8, fS68_18, fS68_19, fS68_21, fS68_22, fS68_23, fS68_24, fS68_25, fS68_26, fS68_27, fS68_28, fS68_30, fS68_32, fS68_33, fS68_34, fS68_35, kS69, lS69, kS70, lS70, kS71, lS71, kS72, lS72, kS73, lS73, kS74, lS74, kS75, lS75, kS76, lS76, kS77, lS77, kS78, lS78, kS79, lS79, kS80, lS80, kS81, lS81, kS82, lS82, kS83, lS83, kS84, lS84, kS85, lS85, kS86, lS86, kS87, lS87, kS88, lS88, kS89, lS89]
    rw [uI_eq (fun j => if_neg (by omega))]
  | succ m ih =>
    intro k hk hs h e1 et
    have e2 := et k (by omega)
    have cb := hc k hs (by omega)
    have st : ev d 152 54 [.ref 68, .int (nI s), .int (nI e), .int (nI k)] [] (S0 L) h = ev d 152 54 [.ref 68, .int (nI s), .int (nI e), .int (nI (k + 1))] [] (S0 L) (sI h 73 (4 + 7 * hg + k - s) (ltI (T k))) := by
      unfold ltI
      unfold ceB at cb
      generalize T k = y at *
      conv => lhs; rw [u152_54]
      by_cases q : y = 119
      · subst q
        rw [if_pos rfl]
        simp (disch := first | assumption | omega) only [u152_0, u152_1, u152_2, u152_4, u152_7, u152_8, u152_11, u152_12, u152_13, u152_16, u152_17, u152_18, u152_21, u152_24, u152_25, u152_26, u152_29, u152_32, u152_33, u152_36, u152_37, u152_40, u152_43, u152_44, u152_47, u152_48, u152_49, u152_50, u152_51, u152_52, u152_53, u152_55, u152_56, u152_59, u152_60, u152_63, u152_64, u152_66, u152_67, u152_70, u152_71, u152_72, u152_73, u152_74, u152_75, u152_76, u152_77, u152_78, u152_79, u152_82, u152_83, u152_84, u152_86, u152_89, u152_90, u152_93, u152_94, u152_97, u152_98, u152_99, u152_101, u152_102, u152_103, u152_106, u152_110, u152_113, u152_114, u152_115, u152_116, u152_117, u152_118, u152_119, ↓br_eq, ↓reduceIte, gd_true, ls_0, ls_1i, ls_1r, ls_1n, ls_1l, ls_2, ls2_eq, List.set_cons_zero, List.set_cons_succ, rf_s, cs_nil, cs_int, cs_ref, cs_long, Option.bind_some, Option.toList_some, Option.toList_none, List.nil_append, List.cons_append, Nat.reduceAdd, Nat.reduceSub, Nat.reduceMul, Nat.reduceLT, Nat.reduceLeDiff, Nat.reduceEqDiff, Int32.reduceAdd, Int32.reduceSub, Int32.reduceMul, Int32.reduceLT, Int32.reduceLE, Int32.reduceToInt, Int32.reduceToNatClampNeg, Int.reduceLE, Int.reduceLT, Int.reduceSub, Int.reduceToNat, and_self, true_and, and_true, or_true, true_or, false_or, or_false, false_and, and_false, not_false_eq_true, not_true_eq_false, eq_self, ↓li_m1, li_0, li_1, li_2, li_3, li_4, li_5, li_6, li_7, li_8, li_10, li_11, li_12, li_13, li_14, li_16, li_20, li_21, li_22, li_23, li_24, li_26, li_32, li_40, li_42, li_46, li_48, li_56, li_57, li_59, li_64, li_72, li_97, li_100, li_102, li_106, li_110, li_119, li_122, li_127, li_194, li_224, li_255, li_300, li_320, li_388, li_500, li_832, li_1000, ltT, ltF, leT, leF, eqT, eqF, eqmF, eqmF2, mlt, mle, mlt2, mle2, inT, cl, sbN, adm, mad, nI_add, pk_mul, dvN, rmN, rmN2, ofN, bo1, bo0, xle, xlt, xnl, xnt, xgt, xgt2, xge, xge0, xmo, dmN, kS0, lS0, kS1, lS1, kS2, lS2, kS3, lS3, kS4, lS4, kS5, lS5, kS6, lS6, kS7, lS7, kS8, fS8_0, fS8_1, fS8_2, fS8_3, fS8_4, fS8_5, fS8_6, fS8_7, fS8_8, fS8_9, kS9, lS9, fS9_0, fS9_1, fS9_2, fS9_3, fS9_4, fS9_5, fS9_6, fS9_7, kS10, fS10_0, fS10_1, kS11, fS11_0, kS12, lS12, kS13, fS13_5, fS13_6, fS13_7, fS13_8, fS13_9, kS14, lS14, kS15, lS15, kS16, lS16, kS17, lS17, kS18, lS18, kS19, fS19_5, fS19_6, fS19_7, fS19_8, fS19_9, kS20, lS20, kS21, lS21, kS22, lS22, kS23, lS23, kS24, lS24, kS25, lS25, fS25_0, fS25_1, kS26, kS27, fS27_3, fS27_4, fS27_5, kS28, lS28, kS29, lS29, kS30, lS30, kS31, fS31_3, fS31_4, kS32, lS32, kS33, lS33, kS34, fS34_3, fS34_4, kS35, lS35, kS36, lS36, kS37, kS38, fS38_0, kS39, lS39, kS40, fS40_0, kS41, lS41, kS42, fS42_0, kS43, lS43, kS44, fS44_0, kS45, lS45, kS46, fS46_0, kS47, lS47, kS48, fS48_0, kS49, lS49, kS50, fS50_0, kS51, lS51, kS52, fS52_0, kS53, lS53, kS54, fS54_0, kS55, lS55, kS56, fS56_5, fS56_6, fS56_7, fS56_8, fS56_9, kS57, lS57, kS58, lS58, kS59, lS59, kS60, lS60, kS61, lS61, kS62, fS62_5, fS62_6, fS62_7, fS62_8, fS62_9, kS63, lS63, kS64, lS64, kS65, lS65, kS66, lS66, kS67, lS67, kS68, fS68_2, fS68_3, fS68_4, fS68_5, fS68_6, fS68_8, fS68_18, fS68_19, fS68_21, fS68_22, fS68_23, fS68_24, fS68_25, fS68_26, fS68_27, fS68_28, fS68_30, fS68_32, fS68_33, fS68_34, fS68_35, kS69, lS69, kS70, lS70, kS71, lS71, kS72, lS72, kS73, lS73, kS74, lS74, kS75, lS75, kS76, lS76, kS77, lS77, kS78, lS78, kS79, lS79, kS80, lS80, kS81, lS81, kS82, lS82, kS83, lS83, kS84, lS84, kS85, lS85, kS86, lS86, kS87, lS87, kS88, lS88, kS89, lS89, e1, e2]
      · rw [if_neg q]
        simp (disch := first | assumption | omega) only [u152_0, u152_1, u152_2, u152_4, u152_7, u152_8, u152_11, u152_12, u152_13, u152_16, u152_17, u152_18, u152_21, u152_24, u152_25, u152_26, u152_29, u152_32, u152_33, u152_36, u152_37, u152_40, u152_43, u152_44, u152_47, u152_48, u152_49, u152_50, u152_51, u152_52, u152_53, u152_55, u152_56, u152_59, u152_60, u152_63, u152_64, u152_66, u152_67, u152_70, u152_71, u152_72, u152_73, u152_74, u152_75, u152_76, u152_77, u152_78, u152_79, u152_82, u152_83, u152_84, u152_86, u152_89, u152_90, u152_93, u152_94, u152_97, u152_98, u152_99, u152_101, u152_102, u152_103, u152_106, u152_110, u152_113, u152_114, u152_115, u152_116, u152_117, u152_118, u152_119, ↓br_eq, ↓reduceIte, gd_true, ls_0, ls_1i, ls_1r, ls_1n, ls_1l, ls_2, ls2_eq, List.set_cons_zero, List.set_cons_succ, rf_s, cs_nil, cs_int, cs_ref, cs_long, Option.bind_some, Option.toList_some, Option.toList_none, List.nil_append, List.cons_append, Nat.reduceAdd, Nat.reduceSub, Nat.reduceMul, Nat.reduceLT, Nat.reduceLeDiff, Nat.reduceEqDiff, Int32.reduceAdd, Int32.reduceSub, Int32.reduceMul, Int32.reduceLT, Int32.reduceLE, Int32.reduceToInt, Int32.reduceToNatClampNeg, Int.reduceLE, Int.reduceLT, Int.reduceSub, Int.reduceToNat, and_self, true_and, and_true, or_true, true_or, false_or, or_false, false_and, and_false, not_false_eq_true, not_true_eq_false, eq_self, ↓li_m1, li_0, li_1, li_2, li_3, li_4, li_5, li_6, li_7, li_8, li_10, li_11, li_12, li_13, li_14, li_16, li_20, li_21, li_22, li_23, li_24, li_26, li_32, li_40, li_42, li_46, li_48, li_56, li_57, li_59, li_64, li_72, li_97, li_100, li_102, li_106, li_110, li_119, li_122, li_127, li_194, li_224, li_255, li_300, li_320, li_388, li_500, li_832, li_1000, ltT, ltF, leT, leF, eqT, eqF, eqmF, eqmF2, mlt, mle, mlt2, mle2, inT, cl, sbN, adm, mad, nI_add, pk_mul, dvN, rmN, rmN2, ofN, bo1, bo0, xle, xlt, xnl, xnt, xgt, xgt2, xge, xge0, xmo, dmN, kS0, lS0, kS1, lS1, kS2, lS2, kS3, lS3, kS4, lS4, kS5, lS5, kS6, lS6, kS7, lS7, kS8, fS8_0, fS8_1, fS8_2, fS8_3, fS8_4, fS8_5, fS8_6, fS8_7, fS8_8, fS8_9, kS9, lS9, fS9_0, fS9_1, fS9_2, fS9_3, fS9_4, fS9_5, fS9_6, fS9_7, kS10, fS10_0, fS10_1, kS11, fS11_0, kS12, lS12, kS13, fS13_5, fS13_6, fS13_7, fS13_8, fS13_9, kS14, lS14, kS15, lS15, kS16, lS16, kS17, lS17, kS18, lS18, kS19, fS19_5, fS19_6, fS19_7, fS19_8, fS19_9, kS20, lS20, kS21, lS21, kS22, lS22, kS23, lS23, kS24, lS24, kS25, lS25, fS25_0, fS25_1, kS26, kS27, fS27_3, fS27_4, fS27_5, kS28, lS28, kS29, lS29, kS30, lS30, kS31, fS31_3, fS31_4, kS32, lS32, kS33, lS33, kS34, fS34_3, fS34_4, kS35, lS35, kS36, lS36, kS37, kS38, fS38_0, kS39, lS39, kS40, fS40_0, kS41, lS41, kS42, fS42_0, kS43, lS43, kS44, fS44_0, kS45, lS45, kS46, fS46_0, kS47, lS47, kS48, fS48_0, kS49, lS49, kS50, fS50_0, kS51, lS51, kS52, fS52_0, kS53, lS53, kS54, fS54_0, kS55, lS55, kS56, fS56_5, fS56_6, fS56_7, fS56_8, fS56_9, kS57, lS57, kS58, lS58, kS59, lS59, kS60, lS60, kS61, lS61, kS62, fS62_5, fS62_6, fS62_7, fS62_8, fS62_9, kS63, lS63, kS64, lS64, kS65, lS65, kS66, lS66, kS67, lS67, kS68, fS68_2, fS68_3, fS68_4, fS68_5, fS68_6, fS68_8, fS68_18, fS68_19, fS68_21, fS68_22, fS68_23, fS68_24, fS68_25, fS68_26, fS68_27, fS68_28, fS68_30, fS68_32, fS68_33, fS68_34, fS68_35, kS69, lS69, kS70, lS70, kS71, lS71, kS72, lS72, kS73, lS73, kS74, lS74, kS75, lS75, kS76, lS76, kS77, lS77, kS78, lS78, kS79, lS79, kS80, lS80, kS81, lS81, kS82, lS82, kS83, lS83, kS84, lS84, kS85, lS85, kS86, lS86, kS87, lS87, kS88, lS88, kS89, lS89, e1, e2]
    rw [st, ih (k + 1) (by omega) (by omega) _ (by rw [sI_n (by omega)]; exact e1) (fun i hi => by rw [sI_n (by omega)]; exact et i hi)]
    rw [uI_sI (g := fun j => if 4 + 7 * hg + (k - s) ≤ j ∧ j < 4 + 7 * hg + (e - s) then ltI (T (s + (j - (4 + 7 * hg)))) else h.1 73 j) (fun j => ?_)]
    rw [sI_1]
    by_cases q : j = 4 + 7 * hg + k - s
    · rw [if_neg (by omega), if_pos (c := 73 = 73 ∧ j = 4 + 7 * hg + k - s) ⟨rfl, q⟩, if_pos (by omega), show s + (j - (4 + 7 * hg)) = k by omega]
    · rw [if_neg (c := 73 = 73 ∧ j = 4 + 7 * hg + k - s) (fun z => q z.2)]
      by_cases q2 : 4 + 7 * hg + (k + 1 - s) ≤ j ∧ j < 4 + 7 * hg + (e - s)
      · rw [if_pos q2, if_pos (by omega)]
      · rw [if_neg q2, if_neg (by omega)]
set_option maxRecDepth 100000 in
set_option maxHeartbeats 400000 in
theorem k152 {h : aH} {T : Nat → Nat} {n s : Nat} {g : Nat → Int32} (C : PR h T n s) (e : h.1 73 = g) (H : PW g) (L d : Nat) : RP T n h (linP T n 6 qH (rowQ T n) s g) (fun h' => call (d + 4) 152 [.ref 68] (S0 L) h = some (none, S0 L, h')) := by
  subst e
  have w7 := H.1.2
  have h6 := H.2.1.2
  have g1 := H.2.1.1
  unfold linP
  by_cases q6 : 6 ≤ qH (h.1 73)
  · rw [br_pos q6]
    have q6' : qH (h.1 73) = 6 := by omega
    rw [q6'] at g1
    have a1 := k150_m (k := 1) (rm := 6) C.1 C.2.2 (by omega) g1 (by omega) L d
    have P := PF_wr s C (k := 3) (by omega) (by omega)
    refine ⟨_, ?_, FrR.wr _ _ _, P⟩
    have f16 := P.2.1
    generalize sI (sI h 68 16 (nI 3)) 68 17 (nI s) = h1 at *
    have a2 := k149_f (f := 3) f16 (by omega) (by omega) L (d + 3)
    simp (disch := first | assumption | omega) only [c152, u152_0, u152_1, u152_2, u152_4, u152_7, u152_8, u152_11, u152_12, u152_13, u152_16, u152_17, u152_18, u152_21, u152_24, u152_25, u152_26, u152_29, u152_32, u152_33, u152_36, u152_37, u152_40, u152_43, u152_44, u152_47, u152_48, u152_49, u152_50, u152_51, u152_52, u152_53, u152_54, u152_55, u152_56, u152_59, u152_60, u152_63, u152_64, u152_66, u152_67, u152_70, u152_71, u152_72, u152_73, u152_74, u152_75, u152_76, u152_77, u152_78, u152_79, u152_82, u152_83, u152_84, u152_86, u152_89, u152_90, u152_93, u152_94, u152_97, u152_98, u152_99, u152_101, u152_102, u152_103, u152_106, u152_109, u152_110, u152_113, u152_114, u152_115, u152_116, u152_117, u152_118, u152_119, ↓br_eq, ↓reduceIte, gd_true, ls_0, ls_1i, ls_1r, ls_1n, ls_1l, ls_2, ls2_eq, List.set_cons_zero, List.set_cons_succ, rf_s, cs_nil, cs_int, cs_ref, cs_long, Option.bind_some, Option.toList_some, Option.toList_none, List.nil_append, List.cons_append, Nat.reduceAdd, Nat.reduceSub, Nat.reduceMul, Nat.reduceLT, Nat.reduceLeDiff, Nat.reduceEqDiff, Int32.reduceAdd, Int32.reduceSub, Int32.reduceMul, Int32.reduceLT, Int32.reduceLE, Int32.reduceToInt, Int32.reduceToNatClampNeg, Int.reduceLE, Int.reduceLT, Int.reduceSub, Int.reduceToNat, and_self, true_and, and_true, or_true, true_or, false_or, or_false, false_and, and_false, not_false_eq_true, not_true_eq_false, eq_self, ↓li_m1, li_0, li_1, li_2, li_3, li_4, li_5, li_6, li_7, li_8, li_10, li_11, li_12, li_13, li_14, li_16, li_20, li_21, li_22, li_23, li_24, li_26, li_32, li_40, li_42, li_46, li_48, li_56, li_57, li_59, li_64, li_72, li_97, li_100, li_102, li_106, li_110, li_119, li_122, li_127, li_194, li_224, li_255, li_300, li_320, li_388, li_500, li_832, li_1000, ltT, ltF, leT, leF, eqT, eqF, eqmF, eqmF2, mlt, mle, mlt2, mle2, inT, cl, sbN, adm, mad, nI_add, pk_mul, dvN, rmN, rmN2, ofN, bo1, bo0, xle, xlt, xnl, xnt, xgt, xgt2, xge, xge0, xmo, dmN, kS0, lS0, kS1, lS1, kS2, lS2, kS3, lS3, kS4, lS4, kS5, lS5, kS6, lS6, kS7, lS7, kS8, fS8_0, fS8_1, fS8_2, fS8_3, fS8_4, fS8_5, fS8_6, fS8_7, fS8_8, fS8_9, kS9, lS9, fS9_0, fS9_1, fS9_2, fS9_3, fS9_4, fS9_5, fS9_6, fS9_7, kS10, fS10_0, fS10_1, kS11, fS11_0, kS12, lS12, kS13, fS13_5, fS13_6, fS13_7, fS13_8, fS13_9, kS14, lS14, kS15, lS15, kS16, lS16, kS17, lS17, kS18, lS18, kS19, fS19_5, fS19_6, fS19_7, fS19_8, fS19_9, kS20, lS20, kS21, lS21, kS22, lS22, kS23, lS23, kS24, lS24, kS25, lS25, fS25_0, fS25_1, kS26, kS27, fS27_3, fS27_4, fS27_5, kS28, lS28, kS29, lS29, kS30, lS30, kS31, fS31_3, fS31_4, kS32, lS32, kS33, lS33, kS34, fS34_3, fS34_4, kS35, lS35, kS36, lS36, kS37, kS38, fS38_0, kS39, lS39, kS40, fS40_0, kS41, lS41, kS42, fS42_0, kS43, lS43, kS44, fS44_0, kS45, lS45, kS46, fS46_0, kS47, lS47, kS48, fS48_0, kS49, lS49, kS50, fS50_0, kS51, lS51, kS52, fS52_0, kS53, lS53, kS54, fS54_0, kS55, lS55, kS56, fS56_5, fS56_6, fS56_7, fS56_8, fS56_9, kS57, lS57, kS58, lS58, kS59, lS59, kS60, lS60, kS61, lS61, kS62, fS62_5, fS62_6, fS62_7, fS62_8, fS62_9, kS63, lS63, kS64, lS64, kS65, lS65, kS66, lS66, kS67, lS67, kS68, fS68_2, fS68_3, fS68_4, fS68_5, fS68_6, fS68_8, fS68_18, fS68_19, fS68_21, fS68_22, fS68_23, fS68_24, fS68_25, fS68_26, fS68_27, fS68_28, fS68_30, fS68_32, fS68_33, fS68_34, fS68_35, kS69, lS69, kS70, lS70, kS71, lS71, kS72, lS72, kS73, lS73, kS74, lS74, kS75, lS75, kS76, lS76, kS77, lS77, kS78, lS78, kS79, lS79, kS80, lS80, kS81, lS81, kS82, lS82, kS83, lS83, kS84, lS84, kS85, lS85, kS86, lS86, kS87, lS87, kS88, lS88, kS89, lS89, a1, a2, f16]
  · rw [br_neg q6]
    have a1 := k150_y (k := 1) (v := qH (h.1 73)) (rm := 6) C.1 (wd0 C.2.1) C.2.2 (by omega) g1 (by omega) (by omega) L d
    have C1 := PR_tk C
    have e1 := tk73 h (tS T n (tE T n s)) (tE T n (tS T n (tE T n s))) (tT T n (tS T n (tE T n s)))
    have F1 := FrR.tk h (tS T n (tE T n s)) (tE T n (tS T n (tE T n s))) (tT T n (tS T n (tE T n s)))
    generalize tkR h (tS T n (tE T n s)) (tE T n (tS T n (tE T n s))) (tT T n (tS T n (tE T n s))) = h1 at *
    generalize nxt T n s = s1 at *
    have sn := C1.2.1
    have f16 := C1.2.2
    have w0 : h1.1 73 0 = nI (qW (h.1 73)) := by rw [e1]; exact H.1.1
    have w1 : h1.1 73 1 = nI (qH (h.1 73)) := by rw [e1]; exact H.2.1.1
    have a2 := k151 C1.1 (wd0 sn) w0 w1 w7 (by omega) L (d + 2)
    have f14 := C1.1.2.2.1
    have f15 := C1.1.2.2.2.1
    have n3 := C1.1.1.2.1
    have el := tE_le (T := T) sn
    unfold rowQ
    by_cases qc : ceP T n s1 (h.1 73)
    · rw [br_pos qc, sbd_r]
      rw [pB_t (show ceK T s1 (tE T n s1) (tT T n s1) (qW (h.1 73)) (qH (h.1 73)) from qc), bi_t] at a2
      have a3 := k145_y C1.1 el.2 f16 L (d + 1)
      have C2 := PR_tk C1
      have e2 := tk73 h1 (tS T n (tE T n s1)) (tE T n (tS T n (tE T n s1))) (tT T n (tS T n (tE T n s1)))
      have F2 := FrR.tk h1 (tS T n (tE T n s1)) (tE T n (tS T n (tE T n s1))) (tT T n (tS T n (tE T n s1)))
      generalize tkR h1 (tS T n (tE T n s1)) (tE T n (tS T n (tE T n s1))) (tT T n (tS T n (tE T n s1))) = h2 at *
      rcases es : sgnP T n (nxt T n s1) with f | s'
      · rw [sbd_l]
        obtain ⟨h3, a4, P, F3⟩ := k149i C2 es L d
        have f16' := P.2.1
        have fp := P.1
        refine ⟨h3, ?_, (F1.trans F2).trans F3, P⟩
        simp (disch := first | assumption | omega) only [c152, u152_0, u152_1, u152_2, u152_4, u152_7, u152_8, u152_11, u152_12, u152_13, u152_16, u152_17, u152_18, u152_21, u152_24, u152_25, u152_26, u152_29, u152_32, u152_33, u152_36, u152_37, u152_40, u152_43, u152_44, u152_47, u152_48, u152_49, u152_50, u152_51, u152_52, u152_53, u152_54, u152_55, u152_56, u152_59, u152_60, u152_63, u152_64, u152_66, u152_67, u152_70, u152_71, u152_72, u152_73, u152_74, u152_75, u152_76, u152_77, u152_78, u152_79, u152_82, u152_83, u152_84, u152_86, u152_89, u152_90, u152_93, u152_94, u152_97, u152_98, u152_99, u152_101, u152_102, u152_103, u152_106, u152_109, u152_110, u152_113, u152_114, u152_115, u152_116, u152_117, u152_118, u152_119, ↓br_eq, ↓reduceIte, gd_true, ls_0, ls_1i, ls_1r, ls_1n, ls_1l, ls_2, ls2_eq, List.set_cons_zero, List.set_cons_succ, rf_s, cs_nil, cs_int, cs_ref, cs_long, Option.bind_some, Option.toList_some, Option.toList_none, List.nil_append, List.cons_append, Nat.reduceAdd, Nat.reduceSub, Nat.reduceMul, Nat.reduceLT, Nat.reduceLeDiff, Nat.reduceEqDiff, Int32.reduceAdd, Int32.reduceSub, Int32.reduceMul, Int32.reduceLT, Int32.reduceLE, Int32.reduceToInt, Int32.reduceToNatClampNeg, Int.reduceLE, Int.reduceLT, Int.reduceSub, Int.reduceToNat, and_self, true_and, and_true, or_true, true_or, false_or, or_false, false_and, and_false, not_false_eq_true, not_true_eq_false, eq_self, ↓li_m1, li_0, li_1, li_2, li_3, li_4, li_5, li_6, li_7, li_8, li_10, li_11, li_12, li_13, li_14, li_16, li_20, li_21, li_22, li_23, li_24, li_26, li_32, li_40, li_42, li_46, li_48, li_56, li_57, li_59, li_64, li_72, li_97, li_100, li_102, li_106, li_110, li_119, li_122, li_127, li_194, li_224, li_255, li_300, li_320, li_388, li_500, li_832, li_1000, ltT, ltF, leT, leF, eqT, eqF, eqmF, eqmF2, mlt, mle, mlt2, mle2, inT, cl, sbN, adm, mad, nI_add, pk_mul, dvN, rmN, rmN2, ofN, bo1, bo0, xle, xlt, xnl, xnt, xgt, xgt2, xge, xge0, xmo, dmN, kS0, lS0, kS1, lS1, kS2, lS2, kS3, lS3, kS4, lS4, kS5, lS5, kS6, lS6, kS7, lS7, kS8, fS8_0, fS8_1, fS8_2, fS8_3, fS8_4, fS8_5, fS8_6, fS8_7, fS8_8, fS8_9, kS9, lS9, fS9_0, fS9_1, fS9_2, fS9_3, fS9_4, fS9_5, fS9_6, fS9_7, kS10, fS10_0, fS10_1, kS11, fS11_0, kS12, lS12, kS13, fS13_5, fS13_6, fS13_7, fS13_8, fS13_9, kS14, lS14, kS15, lS15, kS16, lS16, kS17, lS17, kS18, lS18, kS19, fS19_5, fS19_6, fS19_7, fS19_8, fS19_9, kS20, lS20, kS21, lS21, kS22, lS22, kS23, lS23, kS24, lS24, kS25, lS25, fS25_0, fS25_1, kS26, kS27, fS27_3, fS27_4, fS27_5, kS28, lS28, kS29, lS29, kS30, lS30, kS31, fS31_3, fS31_4, kS32, lS32, kS33, lS33, kS34, fS34_3, fS34_4, kS35, lS35, kS36, lS36, kS37, kS38, fS38_0, kS39, lS39, kS40, fS40_0, kS41, lS41, kS42, fS42_0, kS43, lS43, kS44, fS44_0, kS45, lS45, kS46, fS46_0, kS47, lS47, kS48, fS48_0, kS49, lS49, kS50, fS50_0, kS51, lS51, kS52, fS52_0, kS53, lS53, kS54, fS54_0, kS55, lS55, kS56, fS56_5, fS56_6, fS56_7, fS56_8, fS56_9, kS57, lS57, kS58, lS58, kS59, lS59, kS60, lS60, kS61, lS61, kS62, fS62_5, fS62_6, fS62_7, fS62_8, fS62_9, kS63, lS63, kS64, lS64, kS65, lS65, kS66, lS66, kS67, lS67, kS68, fS68_2, fS68_3, fS68_4, fS68_5, fS68_6, fS68_8, fS68_18, fS68_19, fS68_21, fS68_22, fS68_23, fS68_24, fS68_25, fS68_26, fS68_27, fS68_28, fS68_30, fS68_32, fS68_33, fS68_34, fS68_35, kS69, lS69, kS70, lS70, kS71, lS71, kS72, lS72, kS73, lS73, kS74, lS74, kS75, lS75, kS76, lS76, kS77, lS77, kS78, lS78, kS79, lS79, kS80, lS80, kS81, lS81, kS82, lS82, kS83, lS83, kS84, lS84, kS85, lS85, kS86, lS86, kS87, lS87, kS88, lS88, kS89, lS89, a1, a2, a3, a4, f16, f14, f15, f16']
      · rw [sbd_r]
        obtain ⟨h3, a4, C3, F3, e3⟩ := k149r C2 es L d
        have f16' := C3.2.2
        obtain ⟨c1, c2, c3, c4⟩ := ceP_r qc H
        have g3 : h3.1 73 = h.1 73 := e3.trans (e2.trans e1)
        have z := z152 (T := T) (n := n) (s := s1) (e := tE T n s1) (hg := qH (h.1 73)) (by omega) el.2 n3 c2 (by omega) c4 L (d + 4) (tE T n s1 - s1) s1 (by omega) (Nat.le_refl _) (sI h3 73 0 (nI (tE T n s1 - s1))) (by rw [sI_n (by omega), g3]; exact H.2.1.1) (fun i hi => by rw [sI_n (by omega)]; exact (C3.1.1.2.2 i hi).2)
        refine ⟨sI (uI (sI h3 73 0 (nI (tE T n s1 - s1))) 73 (fun j => if 4 + 7 * qH (h.1 73) + (s1 - s1) ≤ j ∧ j < 4 + 7 * qH (h.1 73) + (tE T n s1 - s1) then ltI (T (s1 + (j - (4 + 7 * qH (h.1 73))))) else (sI h3 73 0 (nI (tE T n s1 - s1))).1 73 j)) 73 1 (nI (qH (h.1 73) + 1)), ?_, ((F1.trans F2).trans F3).trans (fun c k p => ⟨by rw [sI_n (by omega), uI_n (by omega), sI_n (by omega)], rfl⟩), ?_, ?_⟩
        · have w1' : (uI (sI h3 73 0 (nI (tE T n s1 - s1))) 73 (fun j => if 4 + 7 * qH (h.1 73) + (s1 - s1) ≤ j ∧ j < 4 + 7 * qH (h.1 73) + (tE T n s1 - s1) then ltI (T (s1 + (j - (4 + 7 * qH (h.1 73))))) else (sI h3 73 0 (nI (tE T n s1 - s1))).1 73 j)).1 73 1 = nI (qH (h.1 73)) := by
            rw [uI_e, if_neg (by omega), sI_n (by omega), g3]; exact H.2.1.1
          clear c4 qc
          generalize uI (sI h3 73 0 (nI (tE T n s1 - s1))) 73 (fun j => if 4 + 7 * qH (h.1 73) + (s1 - s1) ≤ j ∧ j < 4 + 7 * qH (h.1 73) + (tE T n s1 - s1) then ltI (T (s1 + (j - (4 + 7 * qH (h.1 73))))) else (sI h3 73 0 (nI (tE T n s1 - s1))).1 73 j) = h4 at *
          generalize tE T n s1 = e1' at *
          simp (disch := first | assumption | omega) only [c152, u152_0, u152_1, u152_2, u152_4, u152_7, u152_8, u152_11, u152_12, u152_13, u152_16, u152_17, u152_18, u152_21, u152_24, u152_25, u152_26, u152_29, u152_32, u152_33, u152_36, u152_37, u152_40, u152_43, u152_44, u152_47, u152_48, u152_49, u152_50, u152_51, u152_52, u152_53, u152_55, u152_56, u152_59, u152_60, u152_63, u152_64, u152_66, u152_67, u152_70, u152_71, u152_72, u152_73, u152_74, u152_75, u152_76, u152_77, u152_78, u152_79, u152_82, u152_83, u152_84, u152_86, u152_89, u152_90, u152_93, u152_94, u152_97, u152_98, u152_99, u152_101, u152_102, u152_103, u152_106, u152_110, u152_113, u152_114, u152_115, u152_116, u152_117, u152_118, u152_119, ↓br_eq, ↓reduceIte, gd_true, ls_0, ls_1i, ls_1r, ls_1n, ls_1l, ls_2, ls2_eq, List.set_cons_zero, List.set_cons_succ, rf_s, cs_nil, cs_int, cs_ref, cs_long, Option.bind_some, Option.toList_some, Option.toList_none, List.nil_append, List.cons_append, Nat.reduceAdd, Nat.reduceSub, Nat.reduceMul, Nat.reduceLT, Nat.reduceLeDiff, Nat.reduceEqDiff, Int32.reduceAdd, Int32.reduceSub, Int32.reduceMul, Int32.reduceLT, Int32.reduceLE, Int32.reduceToInt, Int32.reduceToNatClampNeg, Int.reduceLE, Int.reduceLT, Int.reduceSub, Int.reduceToNat, and_self, true_and, and_true, or_true, true_or, false_or, or_false, false_and, and_false, not_false_eq_true, not_true_eq_false, eq_self, ↓li_m1, li_0, li_1, li_2, li_3, li_4, li_5, li_6, li_7, li_8, li_10, li_11, li_12, li_13, li_14, li_16, li_20, li_21, li_22, li_23, li_24, li_26, li_32, li_40, li_42, li_46, li_48, li_56, li_57, li_59, li_64, li_72, li_97, li_100, li_102, li_106, li_110, li_119, li_122, li_127, li_194, li_224, li_255, li_300, li_320, li_388, li_500, li_832, li_1000, ltT, ltF, leT, leF, eqT, eqF, eqmF, eqmF2, mlt, mle, mlt2, mle2, inT, cl, sbN, adm, mad, nI_add, pk_mul, dvN, rmN, rmN2, ofN, bo1, bo0, xle, xlt, xnl, xnt, xgt, xgt2, xge, xge0, xmo, dmN, kS0, lS0, kS1, lS1, kS2, lS2, kS3, lS3, kS4, lS4, kS5, lS5, kS6, lS6, kS7, lS7, kS8, fS8_0, fS8_1, fS8_2, fS8_3, fS8_4, fS8_5, fS8_6, fS8_7, fS8_8, fS8_9, kS9, lS9, fS9_0, fS9_1, fS9_2, fS9_3, fS9_4, fS9_5, fS9_6, fS9_7, kS10, fS10_0, fS10_1, kS11, fS11_0, kS12, lS12, kS13, fS13_5, fS13_6, fS13_7, fS13_8, fS13_9, kS14, lS14, kS15, lS15, kS16, lS16, kS17, lS17, kS18, lS18, kS19, fS19_5, fS19_6, fS19_7, fS19_8, fS19_9, kS20, lS20, kS21, lS21, kS22, lS22, kS23, lS23, kS24, lS24, kS25, lS25, fS25_0, fS25_1, kS26, kS27, fS27_3, fS27_4, fS27_5, kS28, lS28, kS29, lS29, kS30, lS30, kS31, fS31_3, fS31_4, kS32, lS32, kS33, lS33, kS34, fS34_3, fS34_4, kS35, lS35, kS36, lS36, kS37, kS38, fS38_0, kS39, lS39, kS40, fS40_0, kS41, lS41, kS42, fS42_0, kS43, lS43, kS44, fS44_0, kS45, lS45, kS46, fS46_0, kS47, lS47, kS48, fS48_0, kS49, lS49, kS50, fS50_0, kS51, lS51, kS52, fS52_0, kS53, lS53, kS54, fS54_0, kS55, lS55, kS56, fS56_5, fS56_6, fS56_7, fS56_8, fS56_9, kS57, lS57, kS58, lS58, kS59, lS59, kS60, lS60, kS61, lS61, kS62, fS62_5, fS62_6, fS62_7, fS62_8, fS62_9, kS63, lS63, kS64, lS64, kS65, lS65, kS66, lS66, kS67, lS67, kS68, fS68_2, fS68_3, fS68_4, fS68_5, fS68_6, fS68_8, fS68_18, fS68_19, fS68_21, fS68_22, fS68_23, fS68_24, fS68_25, fS68_26, fS68_27, fS68_28, fS68_30, fS68_32, fS68_33, fS68_34, fS68_35, kS69, lS69, kS70, lS70, kS71, lS71, kS72, lS72, kS73, lS73, kS74, lS74, kS75, lS75, kS76, lS76, kS77, lS77, kS78, lS78, kS79, lS79, kS80, lS80, kS81, lS81, kS82, lS82, kS83, lS83, kS84, lS84, kS85, lS85, kS86, lS86, kS87, lS87, kS88, lS88, kS89, lS89, a1, a2, a3, a4, f16, f14, f15, f16', z]
          rw [u152_109]
          simp (disch := first | assumption | omega) only [u152_0, u152_1, u152_2, u152_4, u152_7, u152_8, u152_11, u152_12, u152_13, u152_16, u152_17, u152_18, u152_21, u152_24, u152_25, u152_26, u152_29, u152_32, u152_33, u152_36, u152_37, u152_40, u152_43, u152_44, u152_47, u152_48, u152_49, u152_50, u152_51, u152_52, u152_53, u152_55, u152_56, u152_59, u152_60, u152_63, u152_64, u152_66, u152_67, u152_70, u152_71, u152_72, u152_73, u152_74, u152_75, u152_76, u152_77, u152_78, u152_79, u152_82, u152_83, u152_84, u152_86, u152_89, u152_90, u152_93, u152_94, u152_97, u152_98, u152_99, u152_101, u152_102, u152_103, u152_106, u152_110, u152_113, u152_114, u152_115, u152_116, u152_117, u152_118, u152_119, ↓br_eq, ↓reduceIte, gd_true, ls_0, ls_1i, ls_1r, ls_1n, ls_1l, ls_2, ls2_eq, List.set_cons_zero, List.set_cons_succ, rf_s, cs_nil, cs_int, cs_ref, cs_long, Option.bind_some, Option.toList_some, Option.toList_none, List.nil_append, List.cons_append, Nat.reduceAdd, Nat.reduceSub, Nat.reduceMul, Nat.reduceLT, Nat.reduceLeDiff, Nat.reduceEqDiff, Int32.reduceAdd, Int32.reduceSub, Int32.reduceMul, Int32.reduceLT, Int32.reduceLE, Int32.reduceToInt, Int32.reduceToNatClampNeg, Int.reduceLE, Int.reduceLT, Int.reduceSub, Int.reduceToNat, and_self, true_and, and_true, or_true, true_or, false_or, or_false, false_and, and_false, not_false_eq_true, not_true_eq_false, eq_self, ↓li_m1, li_0, li_1, li_2, li_3, li_4, li_5, li_6, li_7, li_8, li_10, li_11, li_12, li_13, li_14, li_16, li_20, li_21, li_22, li_23, li_24, li_26, li_32, li_40, li_42, li_46, li_48, li_56, li_57, li_59, li_64, li_72, li_97, li_100, li_102, li_106, li_110, li_119, li_122, li_127, li_194, li_224, li_255, li_300, li_320, li_388, li_500, li_832, li_1000, ltT, ltF, leT, leF, eqT, eqF, eqmF, eqmF2, mlt, mle, mlt2, mle2, inT, cl, sbN, adm, mad, nI_add, pk_mul, dvN, rmN, rmN2, ofN, bo1, bo0, xle, xlt, xnl, xnt, xgt, xgt2, xge, xge0, xmo, dmN, kS0, lS0, kS1, lS1, kS2, lS2, kS3, lS3, kS4, lS4, kS5, lS5, kS6, lS6, kS7, lS7, kS8, fS8_0, fS8_1, fS8_2, fS8_3, fS8_4, fS8_5, fS8_6, fS8_7, fS8_8, fS8_9, kS9, lS9, fS9_0, fS9_1, fS9_2, fS9_3, fS9_4, fS9_5, fS9_6, fS9_7, kS10, fS10_0, fS10_1, kS11, fS11_0, kS12, lS12, kS13, fS13_5, fS13_6, fS13_7, fS13_8, fS13_9, kS14, lS14, kS15, lS15, kS16, lS16, kS17, lS17, kS18, lS18, kS19, fS19_5, fS19_6, fS19_7, fS19_8, fS19_9, kS20, lS20, kS21, lS21, kS22, lS22, kS23, lS23, kS24, lS24, kS25, lS25, fS25_0, fS25_1, kS26, kS27, fS27_3, fS27_4, fS27_5, kS28, lS28, kS29, lS29, kS30, lS30, kS31, fS31_3, fS31_4, kS32, lS32, kS33, lS33, kS34, fS34_3, fS34_4, kS35, lS35, kS36, lS36, kS37, kS38, fS38_0, kS39, lS39, kS40, fS40_0, kS41, lS41, kS42, fS42_0, kS43, lS43, kS44, fS44_0, kS45, lS45, kS46, fS46_0, kS47, lS47, kS48, fS48_0, kS49, lS49, kS50, fS50_0, kS51, lS51, kS52, fS52_0, kS53, lS53, kS54, fS54_0, kS55, lS55, kS56, fS56_5, fS56_6, fS56_7, fS56_8, fS56_9, kS57, lS57, kS58, lS58, kS59, lS59, kS60, lS60, kS61, lS61, kS62, fS62_5, fS62_6, fS62_7, fS62_8, fS62_9, kS63, lS63, kS64, lS64, kS65, lS65, kS66, lS66, kS67, lS67, kS68, fS68_2, fS68_3, fS68_4, fS68_5, fS68_6, fS68_8, fS68_18, fS68_19, fS68_21, fS68_22, fS68_23, fS68_24, fS68_25, fS68_26, fS68_27, fS68_28, fS68_30, fS68_32, fS68_33, fS68_34, fS68_35, kS69, lS69, kS70, lS70, kS71, lS71, kS72, lS72, kS73, lS73, kS74, lS74, kS75, lS75, kS76, lS76, kS77, lS77, kS78, lS78, kS79, lS79, kS80, lS80, kS81, lS81, kS82, lS82, kS83, lS83, kS84, lS84, kS85, lS85, kS86, lS86, kS87, lS87, kS88, lS88, kS89, lS89, w1']
        · obtain ⟨⟨c0, x1, x2, x3, x4⟩, c5, c6⟩ := C3
          refine ⟨⟨⟨?_, c0.2.1, fun i hi => ⟨(c0.2.2 i hi).1, ?_⟩⟩, ?_, ?_, ?_, ?_⟩, c5, ?_⟩
          · rw [sI_n (by omega), uI_n (by omega), sI_n (by omega)]; exact c0.1
          · rw [sI_n (by omega), uI_n (by omega), sI_n (by omega)]; exact (c0.2.2 i hi).2
          · rw [sI_n (by omega), uI_n (by omega), sI_n (by omega)]; exact x1
          · rw [sI_n (by omega), uI_n (by omega), sI_n (by omega)]; exact x2
          · rw [sI_n (by omega), uI_n (by omega), sI_n (by omega)]; exact x3
          · rw [sI_n (by omega), uI_n (by omega), sI_n (by omega)]; exact x4
          · rw [sI_n (by omega), uI_n (by omega), sI_n (by omega)]; exact c6
        · show _ = rowG T s1 (tE T n s1) (h.1 73)
          funext j
          unfold rowG
          by_cases j0 : j = 0
          · rw [if_pos j0, j0, sI_n (by omega), uI_e, if_neg (by omega), sI_e]
          · rw [if_neg j0]
            by_cases j1 : j = 1
            · rw [if_pos j1, j1, sI_e]
            · rw [if_neg j1, sI_n (by omega), uI_e]
              by_cases j2 : 4 + 7 * qH (h.1 73) ≤ j ∧ j < 4 + 7 * qH (h.1 73) + (tE T n s1 - s1)
              · rw [if_pos (by omega), if_pos j2]
              · rw [if_neg (by omega), if_neg j2, sI_n (by omega), g3]
    · rw [br_neg qc, sbd_l]
      rw [pB_f (show ¬ ceK T s1 (tE T n s1) (tT T n s1) (qW (h.1 73)) (qH (h.1 73)) from qc), bi_f] at a2
      have a3 := k145_n C1.1 f16 L (d + 1)
      have P := PF_wr s1 C1 (k := 1) (by omega) (by omega)
      refine ⟨_, ?_, F1.trans (FrR.wr _ _ _), P⟩
      have f16' := P.2.1
      generalize sI (sI h1 68 16 (nI 1)) 68 17 (nI s1) = h2 at *
      have a4 := k149_f (f := 1) f16' (by omega) (by omega) L (d + 3)
      simp (disch := first | assumption | omega) only [c152, u152_0, u152_1, u152_2, u152_4, u152_7, u152_8, u152_11, u152_12, u152_13, u152_16, u152_17, u152_18, u152_21, u152_24, u152_25, u152_26, u152_29, u152_32, u152_33, u152_36, u152_37, u152_40, u152_43, u152_44, u152_47, u152_48, u152_49, u152_50, u152_51, u152_52, u152_53, u152_54, u152_55, u152_56, u152_59, u152_60, u152_63, u152_64, u152_66, u152_67, u152_70, u152_71, u152_72, u152_73, u152_74, u152_75, u152_76, u152_77, u152_78, u152_79, u152_82, u152_83, u152_84, u152_86, u152_89, u152_90, u152_93, u152_94, u152_97, u152_98, u152_99, u152_101, u152_102, u152_103, u152_106, u152_109, u152_110, u152_113, u152_114, u152_115, u152_116, u152_117, u152_118, u152_119, ↓br_eq, ↓reduceIte, gd_true, ls_0, ls_1i, ls_1r, ls_1n, ls_1l, ls_2, ls2_eq, List.set_cons_zero, List.set_cons_succ, rf_s, cs_nil, cs_int, cs_ref, cs_long, Option.bind_some, Option.toList_some, Option.toList_none, List.nil_append, List.cons_append, Nat.reduceAdd, Nat.reduceSub, Nat.reduceMul, Nat.reduceLT, Nat.reduceLeDiff, Nat.reduceEqDiff, Int32.reduceAdd, Int32.reduceSub, Int32.reduceMul, Int32.reduceLT, Int32.reduceLE, Int32.reduceToInt, Int32.reduceToNatClampNeg, Int.reduceLE, Int.reduceLT, Int.reduceSub, Int.reduceToNat, and_self, true_and, and_true, or_true, true_or, false_or, or_false, false_and, and_false, not_false_eq_true, not_true_eq_false, eq_self, ↓li_m1, li_0, li_1, li_2, li_3, li_4, li_5, li_6, li_7, li_8, li_10, li_11, li_12, li_13, li_14, li_16, li_20, li_21, li_22, li_23, li_24, li_26, li_32, li_40, li_42, li_46, li_48, li_56, li_57, li_59, li_64, li_72, li_97, li_100, li_102, li_106, li_110, li_119, li_122, li_127, li_194, li_224, li_255, li_300, li_320, li_388, li_500, li_832, li_1000, ltT, ltF, leT, leF, eqT, eqF, eqmF, eqmF2, mlt, mle, mlt2, mle2, inT, cl, sbN, adm, mad, nI_add, pk_mul, dvN, rmN, rmN2, ofN, bo1, bo0, xle, xlt, xnl, xnt, xgt, xgt2, xge, xge0, xmo, dmN, kS0, lS0, kS1, lS1, kS2, lS2, kS3, lS3, kS4, lS4, kS5, lS5, kS6, lS6, kS7, lS7, kS8, fS8_0, fS8_1, fS8_2, fS8_3, fS8_4, fS8_5, fS8_6, fS8_7, fS8_8, fS8_9, kS9, lS9, fS9_0, fS9_1, fS9_2, fS9_3, fS9_4, fS9_5, fS9_6, fS9_7, kS10, fS10_0, fS10_1, kS11, fS11_0, kS12, lS12, kS13, fS13_5, fS13_6, fS13_7, fS13_8, fS13_9, kS14, lS14, kS15, lS15, kS16, lS16, kS17, lS17, kS18, lS18, kS19, fS19_5, fS19_6, fS19_7, fS19_8, fS19_9, kS20, lS20, kS21, lS21, kS22, lS22, kS23, lS23, kS24, lS24, kS25, lS25, fS25_0, fS25_1, kS26, kS27, fS27_3, fS27_4, fS27_5, kS28, lS28, kS29, lS29, kS30, lS30, kS31, fS31_3, fS31_4, kS32, lS32, kS33, lS33, kS34, fS34_3, fS34_4, kS35, lS35, kS36, lS36, kS37, kS38, fS38_0, kS39, lS39, kS40, fS40_0, kS41, lS41, kS42, fS42_0, kS43, lS43, kS44, fS44_0, kS45, lS45, kS46, fS46_0, kS47, lS47, kS48, fS48_0, kS49, lS49, kS50, fS50_0, kS51, lS51, kS52, fS52_0, kS53, lS53, kS54, fS54_0, kS55, lS55, kS56, fS56_5, fS56_6, fS56_7, fS56_8, fS56_9, kS57, lS57, kS58, lS58, kS59, lS59, kS60, lS60, kS61, lS61, kS62, fS62_5, fS62_6, fS62_7, fS62_8, fS62_9, kS63, lS63, kS64, lS64, kS65, lS65, kS66, lS66, kS67, lS67, kS68, fS68_2, fS68_3, fS68_4, fS68_5, fS68_6, fS68_8, fS68_18, fS68_19, fS68_21, fS68_22, fS68_23, fS68_24, fS68_25, fS68_26, fS68_27, fS68_28, fS68_30, fS68_32, fS68_33, fS68_34, fS68_35, kS69, lS69, kS70, lS70, kS71, lS71, kS72, lS72, kS73, lS73, kS74, lS74, kS75, lS75, kS76, lS76, kS77, lS77, kS78, lS78, kS79, lS79, kS80, lS80, kS81, lS81, kS82, lS82, kS83, lS83, kS84, lS84, kS85, lS85, kS86, lS86, kS87, lS87, kS88, lS88, kS89, lS89, a1, a2, a3, a4, f16, f14, f15, f16']
