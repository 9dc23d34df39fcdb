/-! the parser, pure -/
def sbd {α β : Type} (r : Sum (Nat × Nat) α) (f : α → Sum (Nat × Nat) β) : Sum (Nat × Nat) β := match r with
  | .inl e => .inl e
  | .inr a => f a
set_option maxRecDepth 100000 in
set_option maxHeartbeats 400000 in
theorem sbd_l {α β : Type} (e : Nat × Nat) (f : α → Sum (Nat × Nat) β) : sbd (.inl e) f = .inl e := rfl
set_option maxRecDepth 100000 in
set_option maxHeartbeats 400000 in
theorem sbd_r {α β : Type} (a : α) (f : α → Sum (Nat × Nat) β) : sbd (.inr a) f = f a := rfl
noncomputable def numP (T : Nat → Nat) (n m s : Nat) : Sum (Nat × Nat) (Nat × Nat) := br (tT T n s = 2) (br (nuV T n s ≤ m) (.inr (nuV T n s, nxt T n s)) (.inl (2, s))) (.inl (1, s))
noncomputable def sgnP (T : Nat → Nat) (n s : Nat) : Sum (Nat × Nat) Nat := br (tT T n s = 3) (.inr (nxt T n s)) (.inl (1, s))
noncomputable def rowQ (T : Nat → Nat) (n s : Nat) (g : Nat → Int32) : Sum (Nat × Nat) (Nat × (Nat → Int32)) := br (ceP T n s g) (.inr (nxt T n s, rowG T s (tE T n s) g)) (.inl (1, s))
noncomputable def stoQ (T : Nat → Nat) (n s : Nat) (g : Nat → Int32) : Sum (Nat × Nat) (Nat × (Nat → Int32)) := sbd (numP T n (qW g) s) fun a => sbd (numP T n (qH g) a.2) fun b => .inr (b.2, stoG a.1 b.1 g)
noncomputable def manQ (T : Nat → Nat) (n s : Nat) (g : Nat → Int32) : Sum (Nat × Nat) (Nat × (Nat → Int32)) := sbd (numP T n (qW g) s) fun a => br (tT T n a.2 = 2 ∧ nuV T n a.2 ≤ qH g ∧ qSt g (a.1 + 8 * nuV T n a.2) = true) (.inl (2, a.2)) (sbd (numP T n (qH g) a.2) fun b => sbd (numP T n 12 b.2) fun c => .inr (c.2, manG a.1 b.1 c.1 g))
noncomputable def linP (T : Nat → Nat) (n room : Nat) (cnt : (Nat → Int32) → Nat) (Q : Nat → (Nat → Int32) → Sum (Nat × Nat) (Nat × (Nat → Int32))) (s : Nat) (g : Nat → Int32) : Sum (Nat × Nat) (Nat × (Nat → Int32)) := br (room ≤ cnt g) (.inl (3, s)) (sbd (Q (nxt T n s) g) fun a => sbd (sgnP T n a.1) fun s' => .inr (s', a.2))
noncomputable def lopP (T : Nat → Nat) (n i : Nat) (P : Nat → (Nat → Int32) → Sum (Nat × Nat) (Nat × (Nat → Int32))) : Nat → Nat → (Nat → Int32) → Sum (Nat × Nat) (Nat × (Nat → Int32))
  | 0, s, g => .inr (s, g)
  | k + 1, s, g => br (isWd T n s i) (sbd (P s g) fun a => lopP T n i P k a.1 a.2) (.inr (s, g))
noncomputable def rowsP (T : Nat → Nat) (n : Nat) : Nat → Nat → (Nat → Int32) → Sum (Nat × Nat) (Nat × (Nat → Int32)) := lopP T n 0 (linP T n 6 qH (rowQ T n))
noncomputable def stosP (T : Nat → Nat) (n : Nat) : Nat → Nat → (Nat → Int32) → Sum (Nat × Nat) (Nat × (Nat → Int32)) := lopP T n 1 (linP T n 8 qS (stoQ T n))
noncomputable def mensP (T : Nat → Nat) (n : Nat) : Nat → Nat → (Nat → Int32) → Sum (Nat × Nat) (Nat × (Nat → Int32)) := lopP T n 2 (linP T n 4 qM (manQ T n))
noncomputable def menP (T : Nat → Nat) (n k s : Nat) (g : Nat → Int32) : Sum (Nat × Nat) (Nat × (Nat → Int32)) := sbd (mensP T n k s g) fun c => br (tT T n c.1 = 0) (.inr c) (.inl (1, c.1))
noncomputable def texP (T : Nat → Nat) (n : Nat) (g : Nat → Int32) : Sum (Nat × Nat) (Nat × (Nat → Int32)) := sbd (br (isWd T n (tS T n 0) 0) (rowsP T n 7 (tS T n 0) g) (.inl (1, tS T n 0))) fun a => sbd (stosP T n 9 a.1 a.2) fun b => br (isWd T n b.1 2) (menP T n 5 b.1 b.2) (.inl (1, b.1))
/-! what a number says -/
set_option maxRecDepth 100000 in
set_option maxHeartbeats 400000 in
theorem num_r {T : Nat → Nat} {n m s : Nat} {a : Nat × Nat} (e : numP T n m s = .inr a) : tT T n s = 2 ∧ nuV T n s ≤ m ∧ a = (nuV T n s, nxt T n s) := by
  unfold numP at e
  by_cases q : tT T n s = 2
  · rw [br_pos q] at e
    by_cases q2 : nuV T n s ≤ m
    · rw [br_pos q2] at e
      exact ⟨q, q2, (Sum.inr.inj e).symm⟩
    · rw [br_neg q2] at e; cases e
  · rw [br_neg q] at e; cases e
set_option maxRecDepth 100000 in
set_option maxHeartbeats 400000 in
theorem num_l {T : Nat → Nat} {n m s : Nat} {f : Nat × Nat} (e : numP T n m s = .inl f) : (tT T n s ≠ 2 ∧ f = (1, s)) ∨ (tT T n s = 2 ∧ m < nuV T n s ∧ f = (2, s)) := by
  unfold numP at e
  by_cases q : tT T n s = 2
  · rw [br_pos q] at e
    by_cases q2 : nuV T n s ≤ m
    · rw [br_pos q2] at e; cases e
    · rw [br_neg q2] at e
      exact Or.inr ⟨q, by omega, (Sum.inl.inj e).symm⟩
  · rw [br_neg q] at e
    exact Or.inl ⟨q, (Sum.inl.inj e).symm⟩
/-! the class: what a text may touch; its draft -/
def PC (h : aH) (T : Nat → Nat) (n s : Nat) : Prop := WC h T n s (tE T n s) (tT T n s) ∧ s ≤ n
def FrC (h h' : aH) : Prop := ∀ c k, ¬ (c = 10 ∨ (c = 11 ∧ k ≠ 1) ∨ (13 ≤ c ∧ c < 19)) → h'.1 c k = h.1 c k ∧ h'.2.1 c k = h.2.1 c k
set_option maxRecDepth 100000 in
set_option maxHeartbeats 400000 in
theorem FrC.refl (h : aH) : FrC h h := fun _ _ _ => ⟨rfl, rfl⟩
set_option maxRecDepth 100000 in
set_option maxHeartbeats 400000 in
theorem FrC.trans {a b c : aH} (h1 : FrC a b) (h2 : FrC b c) : FrC a c := fun x k p => ⟨(h2 x k p).1.trans (h1 x k p).1, (h2 x k p).2.trans (h1 x k p).2⟩
set_option maxRecDepth 100000 in
set_option maxHeartbeats 400000 in
theorem FrC.tk (h : aH) (s e t : Nat) : FrC h (tkC h s e t) := fun c k p => by
  unfold tkC
  exact ⟨by rw [sI_n (by omega), sI_n (by omega), sI_n (by omega)], rfl⟩
set_option maxRecDepth 100000 in
set_option maxHeartbeats 400000 in
theorem FrC.wr (h : aH) (a b : Int32) : FrC h (sI (sI h 10 2 a) 10 3 b) := fun c k p => ⟨by rw [sI_n (by omega), sI_n (by omega)], rfl⟩
set_option maxRecDepth 100000 in
set_option maxHeartbeats 400000 in
theorem FrC.wk {h h' : aH} (F : FrC h h') (W : WK h) : WK h' := fun i j hi hj => by rw [(F (5 + i) j (by omega)).1]; exact W i j hi hj
set_option maxRecDepth 100000 in
set_option maxHeartbeats 400000 in
theorem FrC.tc {h h' : aH} (F : FrC h h') {T : Nat → Nat} {n : Nat} (H : TC h T n) : TC h' T n := ⟨by rw [(F 11 1 (by omega)).1]; exact H.1, H.2.1, fun i hi => ⟨(H.2.2 i hi).1, by rw [(F 12 i (by omega)).1]; exact (H.2.2 i hi).2⟩⟩
set_option maxRecDepth 100000 in
set_option maxHeartbeats 400000 in
theorem PC_tk {h : aH} {T : Nat → Nat} {n s : Nat} (H : PC h T n s) : PC (tkC h (tS T n (tE T n s)) (tE T n (tS T n (tE T n s))) (tT T n (tS T n (tE T n s)))) T n (nxt T n s) := ⟨WC_tk H.1.1, nxt_le H.2⟩
def DG (h : aH) (g : Nat → Int32) : Prop := (h.1 13 0 = g 0 ∧ h.1 13 1 = g 1 ∧ h.1 13 2 = g 3) ∧ (∀ b, b < 64 → lb (h.2.1 13 3) b = qWat g b) ∧ (∀ b, b < 64 → lb (h.2.1 13 4) b = qSt g b) ∧ (∀ i, i < 4 → ∀ b, b < 64 → lb (h.2.1 14 i) b = (qWor g b).testBit i) ∧ (∀ m, m < qM g → h.1 15 m = g (102 + 2 * m) ∧ h.1 16 m = g (103 + 2 * m)) ∧ (∀ m, m < 4 → h.2.1 17 m = 0)
set_option maxRecDepth 100000 in
set_option maxHeartbeats 400000 in
theorem DG_of {h h' : aH} {g : Nat → Int32} (e : ∀ c k, 13 ≤ c → c < 18 → h'.1 c k = h.1 c k ∧ h'.2.1 c k = h.2.1 c k) (H : DG h g) : DG h' g := by
  obtain ⟨a1, a2, a3, a4, a5, a6⟩ := H
  unfold DG
  rw [(e 13 0 (by omega) (by omega)).1, (e 13 1 (by omega) (by omega)).1, (e 13 2 (by omega) (by omega)).1, (e 13 3 (by omega) (by omega)).2, (e 13 4 (by omega) (by omega)).2]
  refine ⟨a1, a2, a3, fun i hi b hb => ?_, fun m hm => ?_, fun m hm => ?_⟩
  · rw [(e 14 i (by omega) (by omega)).2]; exact a4 i hi b hb
  · rw [(e 15 m (by omega) (by omega)).1, (e 16 m (by omega) (by omega)).1]; exact a5 m hm
  · rw [(e 17 m (by omega) (by omega)).2]; exact a6 m hm
set_option maxRecDepth 100000 in
set_option maxHeartbeats 400000 in
theorem DG_tk {h : aH} {g : Nat → Int32} (H : DG h g) (s e t : Nat) : DG (tkC h s e t) g := DG_of (fun c k h1 h2 => by
  unfold tkC
  exact ⟨by rw [sI_n (by omega), sI_n (by omega), sI_n (by omega)], rfl⟩) H
/-- what a reading method answers -/
def CO (T : Nat → Nat) (n L : Nat) (h : aH) (r : Sum (Nat × Nat) (Nat × (Nat → Int32))) (o : Option (Option Value × aS × aH)) : Prop := match r with
  | .inl f => ∃ h', o = some (some (.int (nI 0)), S0 L, h') ∧ FrC h h' ∧ h'.1 10 2 = nI f.1 ∧ h'.1 10 3 = nI f.2
  | .inr a => ∃ h', o = some (some (.int (nI 1)), S0 L, h') ∧ FrC h h' ∧ PC h' T n a.1 ∧ DG h' a.2
set_option maxRecDepth 100000 in
set_option maxHeartbeats 400000 in
theorem CO_wr {T : Nat → Nat} {n L : Nat} {h h1 : aH} {a b : Nat} (F : FrC h h1) {o : Option (Option Value × aS × aH)} (e : o = some (some (.int (nI 0)), S0 L, sI (sI h1 10 2 (nI a)) 10 3 (nI b))) : CO T n L h (.inl (a, b)) o := ⟨_, e, F.trans (FrC.wr _ _ _), by rw [sI_n (by omega), sI_e], sI_e ..⟩
set_option maxRecDepth 100000 in
set_option maxHeartbeats 400000 in
theorem CO_tr {T : Nat → Nat} {n L : Nat} {h h1 : aH} (F : FrC h h1) {r : Sum (Nat × Nat) (Nat × (Nat → Int32))} {o : Option (Option Value × aS × aH)} (H : CO T n L h1 r o) : CO T n L h r o := by
  match r, H with
  | .inl f, ⟨h', e, F', x⟩ => exact ⟨h', e, F.trans F', x⟩
  | .inr a, ⟨h', e, F', x⟩ => exact ⟨h', e, F.trans F', x⟩
/-! numbers and signs of the class -/
set_option maxRecDepth 100000 in
set_option maxHeartbeats 400000 in
theorem k49i {h : aH} {T : Nat → Nat} {n s m : Nat} {f : Nat × Nat} (C : PC h T n s) (e : numP T n m s = .inl f) (L d : Nat) : call (d + 3) 49 [.ref 10, .int (nI m)] (S0 L) h = some (some (.int mO), S0 L, sI (sI h 10 2 (nI f.1)) 10 3 (nI f.2)) := by
  rcases num_l e with ⟨q, rfl⟩ | ⟨q, q2, rfl⟩
  · exact k49_n C.1 (wd0 C.2) q _ L d
  · have C1 := C.1
    have D1 := wd0 (T := T) C.2
    rw [q] at C1 D1
    exact k49_m C1 D1 q2 L d
set_option maxRecDepth 100000 in
set_option maxHeartbeats 400000 in
theorem k49r {h : aH} {T : Nat → Nat} {n s m : Nat} {a : Nat × Nat} (C : PC h T n s) (hm : m < 100) (e : numP T n m s = .inr a) (L d : Nat) : ∃ h', call (d + 3) 49 [.ref 10, .int (nI m)] (S0 L) h = some (some (.int (nI a.1)), S0 L, h') ∧ PC h' T n a.2 ∧ FrC h h' ∧ (∀ g, DG h g → DG h' g) ∧ a.1 ≤ m := by
  obtain ⟨q, q2, rfl⟩ := num_r e
  have C1 := C.1
  have D1 := wd0 (T := T) C.2
  rw [q] at C1 D1
  exact ⟨_, k49_y C1 D1 q2 hm L d, PC_tk C, FrC.tk _ _ _ _, fun g H => DG_tk H .., q2⟩
set_option maxRecDepth 100000 in
set_option maxHeartbeats 400000 in
theorem k47i {h : aH} {T : Nat → Nat} {n s : Nat} {f : Nat × Nat} (C : PC h T n s) (e : sgnP T n s = .inl f) (L d : Nat) : call (d + 3) 47 [.ref 10] (S0 L) h = some (some (.int (nI 0)), S0 L, sI (sI h 10 2 (nI f.1)) 10 3 (nI f.2)) := by
  unfold sgnP at e
  by_cases q : tT T n s = 3
  · rw [br_pos q] at e; cases e
  · rw [br_neg q] at e
    rw [← Sum.inl.inj e]
    exact k47_n C.1 (tT_4 _ _ _) q L d
set_option maxRecDepth 100000 in
set_option maxHeartbeats 400000 in
theorem k47r {h : aH} {T : Nat → Nat} {n s s' : Nat} (C : PC h T n s) (e : sgnP T n s = .inr s') (L d : Nat) : ∃ h', call (d + 3) 47 [.ref 10] (S0 L) h = some (some (.int (nI 1)), S0 L, h') ∧ PC h' T n s' ∧ FrC h h' ∧ (∀ g, DG h g → DG h' g) := by
  unfold sgnP at e
  by_cases q : tT T n s = 3
  · rw [br_pos q] at e
    rw [← Sum.inr.inj e]
    have C1 := C.1
    rw [q] at C1
    exact ⟨_, k47_y C1 (tE_le C.2).2 L d, PC_tk C, FrC.tk _ _ _ _, fun g H => DG_tk H ..⟩
  · rw [br_neg q] at e; cases e
set_option maxRecDepth 100000 in
set_option maxHeartbeats 400000 in
theorem sgn_le {T : Nat → Nat} {n s s' : Nat} (h : s ≤ n) (e : sgnP T n s = .inr s') : s' ≤ n := by
  unfold sgnP at e
  by_cases q : tT T n s = 3
  · rw [br_pos q] at e
    rw [← Sum.inr.inj e]
    exact nxt_le h
  · rw [br_neg q] at e; cases e
/-! a stone: the class -/
set_option maxRecDepth 100000 in
set_option maxHeartbeats 400000 in
theorem k50 {h : aH} {T : Nat → Nat} {n s : Nat} {g : Nat → Int32} (C : PC h T n s) (D : DG h g) (H : PW g) (L d : Nat) : CO T n L h (stoQ T n s g) (call (d + 4) 50 [.ref 10] (S0 L) h) := by
  have e0 : h.1 13 0 = nI (qW g) := D.1.1.trans H.1.1
  have w7 := H.1.2
  have h6 := H.2.1.2
  unfold stoQ
  rcases e1 : numP T n (qW g) s with f | a
  · rw [sbd_l]
    have a1 := k49i C e1 L d
    refine CO_wr (FrC.refl h) ?_
    simp (disch := first | assumption | omega) only [c50, u50_0, u50_1, u50_2, u50_5, u50_8, u50_11, u50_12, u50_13, u50_16, u50_17, u50_18, u50_19, u50_20, u50_23, u50_26, u50_29, u50_30, u50_31, u50_34, u50_35, u50_36, u50_37, u50_40, u50_40i, u50_41, u50_44, u50_45, u50_46, u50_48, u50_49, u50_50, u50_51, u50_52, u50_53, u50_56, u50_57, ↓br_eq, ↓reduceIte, gd_true, ls_0, ls_1i, ls_1r, ls_1n, ls_1l, ls_2, ls2_eq, List.set_cons_zero, List.set_cons_succ, rf_s, cs_nil, cs_int, cs_ref, cs_long, Option.bind_some, Option.toList_some, Option.toList_none, List.nil_append, List.cons_append, Nat.reduceAdd, Nat.reduceSub, Nat.reduceMul, Nat.reduceLT, Nat.reduceLeDiff, Nat.reduceEqDiff, Int32.reduceAdd, Int32.reduceSub, Int32.reduceMul, Int32.reduceLT, Int32.reduceLE, Int32.reduceToInt, Int32.reduceToNatClampNeg, Int.reduceLE, Int.reduceLT, Int.reduceSub, Int.reduceToNat, and_self, true_and, and_true, or_true, true_or, false_or, or_false, false_and, and_false, not_false_eq_true, not_true_eq_false, eq_self, ↓li_m1, li_0, li_1, li_2, li_3, li_4, li_5, li_6, li_7, li_8, li_10, li_11, li_12, li_13, li_14, li_16, li_20, li_21, li_22, li_23, li_24, li_26, li_32, li_40, li_42, li_46, li_48, li_56, li_57, li_59, li_64, li_72, li_97, li_100, li_102, li_106, li_110, li_119, li_122, li_127, li_194, li_224, li_255, li_300, li_320, li_388, li_500, li_832, li_1000, ltT, ltF, leT, leF, eqT, eqF, eqmF, eqmF2, mlt, mle, mlt2, mle2, inT, cl, sbN, adm, mad, nI_add, pk_mul, dvN, rmN, rmN2, ofN, bo1, bo0, xle, xlt, xnl, xnt, xgt, xgt2, xge, xge0, xmo, dmN, kS0, lS0, kS1, lS1, kS2, lS2, kS3, lS3, kS4, lS4, kS5, lS5, kS6, lS6, kS7, lS7, kS8, fS8_0, fS8_1, fS8_2, fS8_3, fS8_4, fS8_5, fS8_6, fS8_7, fS8_8, fS8_9, kS9, lS9, fS9_0, fS9_1, fS9_2, fS9_3, fS9_4, fS9_5, fS9_6, fS9_7, kS10, fS10_0, fS10_1, kS11, fS11_0, kS12, lS12, kS13, fS13_5, fS13_6, fS13_7, fS13_8, fS13_9, kS14, lS14, kS15, lS15, kS16, lS16, kS17, lS17, kS18, lS18, kS19, fS19_5, fS19_6, fS19_7, fS19_8, fS19_9, kS20, lS20, kS21, lS21, kS22, lS22, kS23, lS23, kS24, lS24, kS25, lS25, fS25_0, fS25_1, kS26, kS27, fS27_3, fS27_4, fS27_5, kS28, lS28, kS29, lS29, kS30, lS30, kS31, fS31_3, fS31_4, kS32, lS32, kS33, lS33, kS34, fS34_3, fS34_4, kS35, lS35, kS36, lS36, kS37, kS38, fS38_0, kS39, lS39, kS40, fS40_0, kS41, lS41, kS42, fS42_0, kS43, lS43, kS44, fS44_0, kS45, lS45, kS46, fS46_0, kS47, lS47, kS48, fS48_0, kS49, lS49, kS50, fS50_0, kS51, lS51, kS52, fS52_0, kS53, lS53, kS54, fS54_0, kS55, lS55, kS56, fS56_5, fS56_6, fS56_7, fS56_8, fS56_9, kS57, lS57, kS58, lS58, kS59, lS59, kS60, lS60, kS61, lS61, kS62, fS62_5, fS62_6, fS62_7, fS62_8, fS62_9, kS63, lS63, kS64, lS64, kS65, lS65, kS66, lS66, kS67, lS67, kS68, fS68_2, fS68_3, fS68_4, fS68_5, fS68_6, fS68_8, fS68_18, fS68_19, fS68_21, fS68_22, fS68_23, fS68_24, fS68_25, fS68_26, fS68_27, fS68_28, fS68_30, fS68_32, fS68_33, fS68_34, fS68_35, kS69, lS69, kS70, lS70, kS71, lS71, kS72, lS72, kS73, lS73, kS74, lS74, kS75, lS75, kS76, lS76, kS77, lS77, kS78, lS78, kS79, lS79, kS80, lS80, kS81, lS81, kS82, lS82, kS83, lS83, kS84, lS84, kS85, lS85, kS86, lS86, kS87, lS87, kS88, lS88, kS89, lS89, e0, a1]
  · rw [sbd_r]
    obtain ⟨h1, a1, C1, F1, D1, l1⟩ := k49r C (by omega) e1 L d
    have e2 : h1.1 13 1 = nI (qH g) := (D1 g D).1.2.1.trans H.2.1.1
    rcases e3 : numP T n (qH g) a.2 with f | b
    · rw [sbd_l]
      have a2 := k49i C1 e3 L d
      refine CO_wr F1 ?_
      simp (disch := first | assumption | omega) only [c50, u50_0, u50_1, u50_2, u50_5, u50_8, u50_11, u50_12, u50_13, u50_16, u50_17, u50_18, u50_19, u50_20, u50_23, u50_26, u50_29, u50_30, u50_31, u50_34, u50_35, u50_36, u50_37, u50_40, u50_40i, u50_41, u50_44, u50_45, u50_46, u50_48, u50_49, u50_50, u50_51, u50_52, u50_53, u50_56, u50_57, ↓br_eq, ↓reduceIte, gd_true, ls_0, ls_1i, ls_1r, ls_1n, ls_1l, ls_2, ls2_eq, List.set_cons_zero, List.set_cons_succ, rf_s, cs_nil, cs_int, cs_ref, cs_long, Option.bind_some, Option.toList_some, Option.toList_none, List.nil_append, List.cons_append, Nat.reduceAdd, Nat.reduceSub, Nat.reduceMul, Nat.reduceLT, Nat.reduceLeDiff, Nat.reduceEqDiff, Int32.reduceAdd, Int32.reduceSub, Int32.reduceMul, Int32.reduceLT, Int32.reduceLE, Int32.reduceToInt, Int32.reduceToNatClampNeg, Int.reduceLE, Int.reduceLT, Int.reduceSub, Int.reduceToNat, and_self, true_and, and_true, or_true, true_or, false_or, or_false, false_and, and_false, not_false_eq_true, not_true_eq_false, eq_self, ↓li_m1, li_0, li_1, li_2, li_3, li_4, li_5, li_6, li_7, li_8, li_10, li_11, li_12, li_13, li_14, li_16, li_20, li_21, li_22, li_23, li_24, li_26, li_32, li_40, li_42, li_46, li_48, li_56, li_57, li_59, li_64, li_72, li_97, li_100, li_102, li_106, li_110, li_119, li_122, li_127, li_194, li_224, li_255, li_300, li_320, li_388, li_500, li_832, li_1000, ltT, ltF, leT, leF, eqT, eqF, eqmF, eqmF2, mlt, mle, mlt2, mle2, inT, cl, sbN, adm, mad, nI_add, pk_mul, dvN, rmN, rmN2, ofN, bo1, bo0, xle, xlt, xnl, xnt, xgt, xgt2, xge, xge0, xmo, dmN, kS0, lS0, kS1, lS1, kS2, lS2, kS3, lS3, kS4, lS4, kS5, lS5, kS6, lS6, kS7, lS7, kS8, fS8_0, fS8_1, fS8_2, fS8_3, fS8_4, fS8_5, fS8_6, fS8_7, fS8_8, fS8_9, kS9, lS9, fS9_0, fS9_1, fS9_2, fS9_3, fS9_4, fS9_5, fS9_6, fS9_7, kS10, fS10_0, fS10_1, kS11, fS11_0, kS12, lS12, kS13, fS13_5, fS13_6, fS13_7, fS13_8, fS13_9, kS14, lS14, kS15, lS15, kS16, lS16, kS17, lS17, kS18, lS18, kS19, fS19_5, fS19_6, fS19_7, fS19_8, fS19_9, kS20, lS20, kS21, lS21, kS22, lS22, kS23, lS23, kS24, lS24, kS25, lS25, fS25_0, fS25_1, kS26, kS27, fS27_3, fS27_4, fS27_5, kS28, lS28, kS29, lS29, kS30, lS30, kS31, fS31_3, fS31_4, kS32, lS32, kS33, lS33, kS34, fS34_3, fS34_4, kS35, lS35, kS36, lS36, kS37, kS38, fS38_0, kS39, lS39, kS40, fS40_0, kS41, lS41, kS42, fS42_0, kS43, lS43, kS44, fS44_0, kS45, lS45, kS46, fS46_0, kS47, lS47, kS48, fS48_0, kS49, lS49, kS50, fS50_0, kS51, lS51, kS52, fS52_0, kS53, lS53, kS54, fS54_0, kS55, lS55, kS56, fS56_5, fS56_6, fS56_7, fS56_8, fS56_9, kS57, lS57, kS58, lS58, kS59, lS59, kS60, lS60, kS61, lS61, kS62, fS62_5, fS62_6, fS62_7, fS62_8, fS62_9, kS63, lS63, kS64, lS64, kS65, lS65, kS66, lS66, kS67, lS67, kS68, fS68_2, fS68_3, fS68_4, fS68_5, fS68_6, fS68_8, fS68_18, fS68_19, fS68_21, fS68_22, fS68_23, fS68_24, fS68_25, fS68_26, fS68_27, fS68_28, fS68_30, fS68_32, fS68_33, fS68_34, fS68_35, kS69, lS69, kS70, lS70, kS71, lS71, kS72, lS72, kS73, lS73, kS74, lS74, kS75, lS75, kS76, lS76, kS77, lS77, kS78, lS78, kS79, lS79, kS80, lS80, kS81, lS81, kS82, lS82, kS83, lS83, kS84, lS84, kS85, lS85, kS86, lS86, kS87, lS87, kS88, lS88, kS89, lS89, e0, a1, e2, a2]
    · rw [sbd_r]
      obtain ⟨h2, a2, C2, F2, D2, l2⟩ := k49r C1 (by omega) e3 L d
      have DD := D2 g (D1 g D)
      refine ⟨sL h2 13 4 (h2.2.1 13 4 ||| 1 <<< ((nI (a.1 + 8 * b.1)).toInt64 &&& 63)), ?_, (F1.trans F2).trans (fun c k p => ⟨rfl, by rw [sL_n (by omega)]⟩), C2, ?_⟩
      · simp (disch := first | assumption | omega) only [c50, u50_0, u50_1, u50_2, u50_5, u50_8, u50_11, u50_12, u50_13, u50_16, u50_17, u50_18, u50_19, u50_20, u50_23, u50_26, u50_29, u50_30, u50_31, u50_34, u50_35, u50_36, u50_37, u50_40, u50_40i, u50_41, u50_44, u50_45, u50_46, u50_48, u50_49, u50_50, u50_51, u50_52, u50_53, u50_56, u50_57, ↓br_eq, ↓reduceIte, gd_true, ls_0, ls_1i, ls_1r, ls_1n, ls_1l, ls_2, ls2_eq, List.set_cons_zero, List.set_cons_succ, rf_s, cs_nil, cs_int, cs_ref, cs_long, Option.bind_some, Option.toList_some, Option.toList_none, List.nil_append, List.cons_append, Nat.reduceAdd, Nat.reduceSub, Nat.reduceMul, Nat.reduceLT, Nat.reduceLeDiff, Nat.reduceEqDiff, Int32.reduceAdd, Int32.reduceSub, Int32.reduceMul, Int32.reduceLT, Int32.reduceLE, Int32.reduceToInt, Int32.reduceToNatClampNeg, Int.reduceLE, Int.reduceLT, Int.reduceSub, Int.reduceToNat, and_self, true_and, and_true, or_true, true_or, false_or, or_false, false_and, and_false, not_false_eq_true, not_true_eq_false, eq_self, ↓li_m1, li_0, li_1, li_2, li_3, li_4, li_5, li_6, li_7, li_8, li_10, li_11, li_12, li_13, li_14, li_16, li_20, li_21, li_22, li_23, li_24, li_26, li_32, li_40, li_42, li_46, li_48, li_56, li_57, li_59, li_64, li_72, li_97, li_100, li_102, li_106, li_110, li_119, li_122, li_127, li_194, li_224, li_255, li_300, li_320, li_388, li_500, li_832, li_1000, ltT, ltF, leT, leF, eqT, eqF, eqmF, eqmF2, mlt, mle, mlt2, mle2, inT, cl, sbN, adm, mad, nI_add, pk_mul, dvN, rmN, rmN2, ofN, bo1, bo0, xle, xlt, xnl, xnt, xgt, xgt2, xge, xge0, xmo, dmN, kS0, lS0, kS1, lS1, kS2, lS2, kS3, lS3, kS4, lS4, kS5, lS5, kS6, lS6, kS7, lS7, kS8, fS8_0, fS8_1, fS8_2, fS8_3, fS8_4, fS8_5, fS8_6, fS8_7, fS8_8, fS8_9, kS9, lS9, fS9_0, fS9_1, fS9_2, fS9_3, fS9_4, fS9_5, fS9_6, fS9_7, kS10, fS10_0, fS10_1, kS11, fS11_0, kS12, lS12, kS13, fS13_5, fS13_6, fS13_7, fS13_8, fS13_9, kS14, lS14, kS15, lS15, kS16, lS16, kS17, lS17, kS18, lS18, kS19, fS19_5, fS19_6, fS19_7, fS19_8, fS19_9, kS20, lS20, kS21, lS21, kS22, lS22, kS23, lS23, kS24, lS24, kS25, lS25, fS25_0, fS25_1, kS26, kS27, fS27_3, fS27_4, fS27_5, kS28, lS28, kS29, lS29, kS30, lS30, kS31, fS31_3, fS31_4, kS32, lS32, kS33, lS33, kS34, fS34_3, fS34_4, kS35, lS35, kS36, lS36, kS37, kS38, fS38_0, kS39, lS39, kS40, fS40_0, kS41, lS41, kS42, fS42_0, kS43, lS43, kS44, fS44_0, kS45, lS45, kS46, fS46_0, kS47, lS47, kS48, fS48_0, kS49, lS49, kS50, fS50_0, kS51, lS51, kS52, fS52_0, kS53, lS53, kS54, fS54_0, kS55, lS55, kS56, fS56_5, fS56_6, fS56_7, fS56_8, fS56_9, kS57, lS57, kS58, lS58, kS59, lS59, kS60, lS60, kS61, lS61, kS62, fS62_5, fS62_6, fS62_7, fS62_8, fS62_9, kS63, lS63, kS64, lS64, kS65, lS65, kS66, lS66, kS67, lS67, kS68, fS68_2, fS68_3, fS68_4, fS68_5, fS68_6, fS68_8, fS68_18, fS68_19, fS68_21, fS68_22, fS68_23, fS68_24, fS68_25, fS68_26, fS68_27, fS68_28, fS68_30, fS68_32, fS68_33, fS68_34, fS68_35, kS69, lS69, kS70, lS70, kS71, lS71, kS72, lS72, kS73, lS73, kS74, lS74, kS75, lS75, kS76, lS76, kS77, lS77, kS78, lS78, kS79, lS79, kS80, lS80, kS81, lS81, kS82, lS82, kS83, lS83, kS84, lS84, kS85, lS85, kS86, lS86, kS87, lS87, kS88, lS88, kS89, lS89, e0, a1, e2, a2]
      · show DG _ (stoG a.1 b.1 g)
        obtain ⟨d1, d2, d3, d4, d5, d6⟩ := DD
        obtain ⟨q1, q2, q3⟩ := sto_q (x := a.1) (y := b.1) (g := g)
        refine ⟨⟨?_, ?_, ?_⟩, fun i hi => ?_, fun i hi => ?_, fun i hi b' hb => ?_, fun m hm => ?_, fun m hm => ?_⟩
        · rw [sL_1, stoG_n (by omega) (by omega)]; exact d1.1
        · rw [sL_1, stoG_n (by omega) (by omega)]; exact d1.2.1
        · rw [sL_1, stoG_n (by omega) (by omega)]; exact d1.2.2
        · rw [sL_n (by omega), sto_wat H]; exact d2 i hi
        · rw [sL_e, lb_or, lb_one_shl (by omega) hi, sto_st (by omega), d3 i hi]
        · rw [sL_n (by omega), sto_wor H]; exact d4 i hi b' hb
        · rw [q3] at hm
          have := H.2.2.1.2
          rw [sL_1, stoG_n (by omega) (by omega), stoG_n (by omega) (by omega)]; exact d5 m hm
        · rw [sL_n (by omega)]; exact d6 m hm
