/-! least: both say the same -/
set_option maxRecDepth 100000 in
set_option maxHeartbeats 400000 in
theorem ra_cong {g : Nat → Int32} {f f' o o' : Nat → Bool} (h1 : ∀ b, b < 64 → f b = f' b) (h2 : ∀ b, b < 64 → o b = o' b) : ra g f o = ra g f' o' := by
  unfold ra
  refine congr (congrArg _ (pct_cong (fun b hb => ?_))) (pct_cong (fun b hb => ?_))
  · rw [bE_cong hb h1, bE_cong hb h2]
  · rw [bS_cong hb h1, bS_cong hb h2]
set_option maxRecDepth 100000 in
set_option maxHeartbeats 400000 in
theorem wo_cong {g : Nat → Int32} {o : Nat} {r r' : List Nat} (h : ∀ b, b < 64 → ins o r b = ins o r' b) : wo g o r = wo g o r' := wth_cong h
def vS (g : Nat → Int32) (o l : Nat) (f : Nat → Bool) (v : Nat) : Prop := ∃ r, r ∈ dfs g o 8 o [o] [] ∧ vB g o l f r ∧ wo g o r = v
set_option maxRecDepth 100000 in
set_option maxHeartbeats 400000 in
theorem vB_cong {g : Nat → Int32} {o l : Nat} {f f' : Nat → Bool} {r r' : List Nat} (h1 : ∀ b, b < 64 → ins o r b = ins o r' b) (h2 : ∀ b, b < 64 → f b = f' b) (h : vB g o l f r) : vB g o l f' r' := by
  refine ⟨fun b hb hi => ?_, ?_⟩
  · rw [← h2 b hb]; exact h.1 b hb (by rw [h1 b hb]; exact hi)
  · rw [← ra_cong h1 h2]; exact h.2
set_option maxRecDepth 100000 in
set_option maxHeartbeats 400000 in
theorem vS_cong {g : Nat → Int32} {o l : Nat} {f f' : Nat → Bool} (h2 : ∀ b, b < 64 → f b = f' b) : vS g o l f = vS g o l f' := by
  funext v
  apply propext
  constructor
  · rintro ⟨r, a, b, c⟩; exact ⟨r, a, vB_cong (fun _ _ => rfl) h2 b, c⟩
  · rintro ⟨r, a, b, c⟩; exact ⟨r, a, vB_cong (fun _ _ => rfl) (fun b hb => (h2 b hb).symm) b, c⟩
set_option maxRecDepth 100000 in
set_option maxHeartbeats 400000 in
theorem dfs_rv {g : Nat → Int32} (Hw : wfG g) {o n : Nat} (ho : inG g o) {r : List Nat} (h : r ∈ dfs g o n o [o] []) : rv r ∈ dfs g o n o [o] [] := by
  obtain ⟨h1, h2, h3⟩ := (dfs_ring Hw.w7 Hw.h6 ho).mp h
  obtain ⟨q1, q2⟩ := ring_rv Hw h1
  exact (dfs_ring Hw.w7 Hw.h6 ho).mpr ⟨q1, by rw [rv_len]; exact h2, fun b hb hi => h3 b hb (by rw [← q2 b hb]; exact hi)⟩
set_option maxRecDepth 100000 in
set_option maxHeartbeats 400000 in
theorem vS_K {g : Nat → Int32} (Hw : wfG g) {o l : Nat} (ho : inG g o) (f : Nat → Bool) : (fun v => ∃ r, r ∈ (dfs g o 8 o [o] []).filter fw ∧ vB g o l f r ∧ wo g o r = v) = vS g o l f := by
  funext v
  apply propext
  constructor
  · rintro ⟨r, a, b, c⟩; exact ⟨r, (List.mem_filter.mp a).1, b, c⟩
  · rintro ⟨r, a, b, c⟩
    cases q : fw r with
    | true => exact ⟨r, List.mem_filter.mpr ⟨a, q⟩, b, c⟩
    | false =>
      have hr := ((dfs_ring Hw.w7 Hw.h6 ho).mp a).1
      have q2 := (ring_rv Hw hr).2
      exact ⟨rv r, List.mem_filter.mpr ⟨dfs_rv Hw ho a, fw_rv Hw hr q⟩, vB_cong (fun b hb => (q2 b hb).symm) (fun _ _ => rfl) b, by rw [wo_cong q2]; exact c⟩
/-- the pairs: what is left for the other, the own worth -/
def pQ (g : Nat → Int32) (oa la ob lb : Nat) (i w : Nat) : Prop := ∃ r, r ∈ dfs g oa 8 oa [oa] [] ∧ rp g oa r ≤ la ∧ isMx (vS g ob lb (ins oa r)) i ∧ wo g oa r = w
set_option maxRecDepth 100000 in
set_option maxHeartbeats 400000 in
theorem pQ_K {g : Nat → Int32} (Hw : wfG g) {oa la ob lb : Nat} (ho : inG g oa) (i w : Nat) : (∃ r, r ∈ (dfs g oa 8 oa [oa] []).filter fw ∧ ra g (ins oa r) (fun _ => false) ≤ la ∧ isMx (vS g ob lb (ins oa r)) i ∧ wo g oa r = w) ↔ pQ g oa la ob lb i w := by
  constructor
  · rintro ⟨r, a, b, c, d⟩
    have a' := (List.mem_filter.mp a).1
    have hr := ((dfs_ring Hw.w7 Hw.h6 ho).mp a').1
    exact ⟨r, a', by rw [← ra_rp Hw hr]; exact b, c, d⟩
  · rintro ⟨r, a, b, c, d⟩
    have hr := ((dfs_ring Hw.w7 Hw.h6 ho).mp a).1
    cases q : fw r with
    | true => exact ⟨r, List.mem_filter.mpr ⟨a, q⟩, by rw [ra_rp Hw hr]; exact b, c, d⟩
    | false =>
      have q2 := (ring_rv Hw hr).2
      refine ⟨rv r, List.mem_filter.mpr ⟨dfs_rv Hw ho a, fw_rv Hw hr q⟩, ?_, ?_, ?_⟩
      · rw [ra_cong q2 (fun _ _ => rfl), ra_rp Hw hr]; exact b
      · rw [vS_cong q2]; exact c
      · rw [wo_cong q2]; exact d
/-! a ring is laid for a while -/
set_option maxRecDepth 100000 in
set_option maxHeartbeats 400000 in
theorem anyM_set {M a : Nat} {f f' : Nat → Bool} {x : Bool} (ha : a < M) (h1 : ∀ m, m < M → m ≠ a → f' m = f m) (h2 : f' a = x) (h3 : f a = false) : anyM M f' = (anyM M f || x) := by
  unfold anyM
  cases hx : x with
  | true => rw [Bool.or_true]; exact pB_t ⟨a, ha, by rw [h2, hx]⟩
  | false =>
    rw [Bool.or_false]
    congr 1
    apply propext
    constructor
    · rintro ⟨m, p, q⟩
      by_cases z : m = a
      · rw [z, h2, hx] at q; cases q
      · exact ⟨m, p, by rw [← h1 m p z]; exact q⟩
    · rintro ⟨m, p, q⟩
      by_cases z : m = a
      · rw [z, h3] at q; cases q
      · exact ⟨m, p, by rw [h1 m p z]; exact q⟩
set_option maxRecDepth 100000 in
set_option maxHeartbeats 400000 in
theorem bst_all {g : Nat → Int32} {c l : Nat} : ∀ (rs : List (List Nat)) (o : Option (List Nat)), wOp g c o ≤ wOp g c (rs.foldl (bst g c l) o) ∧ ∀ r, r ∈ rs → rp g c r ≤ l → (wo g c r : Int) ≤ wOp g c (rs.foldl (bst g c l) o)
  | [], o => ⟨Int.le_refl _, fun r h => by cases h⟩
  | r :: rs, o => by
    rw [List.foldl_cons]
    obtain ⟨h1, h2⟩ := bst_all (l := l) rs (bst g c l o r)
    have e := bst_wOp g c l o r
    refine ⟨?_, fun r' hr' hl => ?_⟩
    · rw [e] at h1
      by_cases q : rp g c r ≤ l ∧ wOp g c o < wo g c r
      · rw [if_pos q] at h1; omega
      · rw [if_neg q] at h1; exact h1
    · rcases List.mem_cons.mp hr' with rfl | hr'
      · rw [e] at h1
        by_cases q : rp g c r' ≤ l ∧ wOp g c o < wo g c r'
        · rw [if_pos q] at h1; exact h1
        · rw [if_neg q] at h1
          have : ¬ wOp g c o < wo g c r' := fun z => q ⟨hl, z⟩
          omega
      · exact h2 r' hr' hl
set_option maxRecDepth 100000 in
set_option maxHeartbeats 400000 in
theorem best_mx (g : Nat → Int32) (c l : Nat) (rs : List (List Nat)) : isMx (fun v => ∃ r, r ∈ rs ∧ rp g c r ≤ l ∧ wo g c r = v) (wN g c (bestOf g c l rs)) := by
  have h1 := (bst_all (g := g) (c := c) (l := l) rs none).2
  have e : rs.foldl (bst g c l) none = bestOf g c l rs := rfl
  rw [e] at h1
  cases hb : bestOf g c l rs with
  | none =>
    rw [hb] at h1
    refine ⟨fun v ⟨r, a, b, d⟩ => ?_, Or.inl rfl⟩
    have : (wo g c r : Int) ≤ -1 := h1 r a b
    omega
  | some ws =>
    rw [hb] at h1
    refine ⟨fun v ⟨r, a, b, d⟩ => ?_, Or.inr ?_⟩
    · have : (wo g c r : Int) ≤ (wo g c ws : Int) := h1 r a b
      show v ≤ wo g c ws
      omega
    · rcases bst_mem _ _ _ (show rs.foldl (bst g c l) none = some ws from hb) with z | ⟨z1, z2⟩
      · cases z
      · exact ⟨ws, z1, z2, rfl⟩
set_option maxRecDepth 100000 in
set_option maxHeartbeats 400000 in
theorem its_mx {g g1 : Nat → Int32} (Hw : wfG g) (Hw1 : wfG g1) {a : Nat} (ha : a < qM g) (hs : SBut a g g1) (hna : g (110 + 21 * a) = mO) {r : List Nat} (hY : qY g1 a = r) {ob lb : Nat} (hob : inG g ob) : isMx (vS g ob lb (ins (qP g a) r)) (wN g1 ob (bestOf g1 ob lb (dfs g1 ob 8 ob [ob] []))) := by
  have B := BEq_but Hw hs
  have h3 := best_mx g1 ob lb (dfs g1 ob 8 ob [ob] [])
  have hob1 : inG g1 ob := by rw [B.inG]; exact hob
  have eY : ∀ m, m < qM g → m ≠ a → qY g1 m = qY g m := fun m hm hne => (qY_but Hw hs hm hne).1
  have e0 : ∀ b, ins (qP g a) (qY g a) b = false := fun b => by rw [qY_no hna]; rfl
  have er : ∀ b, rgd g1 b = (rgd g b || ins (qP g a) r b) := fun b => by
    unfold rgd
    rw [B.m]
    exact anyM_set ha (fun m hm hne => by rw [B.p hm, eY m hm hne]) (by rw [B.p ha, hY]) (e0 b)
  have efE : ∀ b, fE g1 b = (fE g b || bE (ins (qP g a) r) b) := fun b => by
    unfold fE
    rw [B.m, B.wat, Bool.or_assoc]
    congr 1
    exact anyM_set ha (fun m hm hne => by rw [B.p hm, eY m hm hne]) (by rw [B.p ha, hY]) (by rw [qY_no hna, ins_nil]; exact bE_0 b)
  have efS : ∀ b, fS g1 b = (fS g b || bS (ins (qP g a) r) b) := fun b => by
    unfold fS
    rw [B.m, B.wat, Bool.or_assoc]
    congr 1
    exact anyM_set ha (fun m hm hne => by rw [B.p hm, eY m hm hne]) (by rw [B.p ha, hY]) (by rw [qY_no hna, ins_nil]; exact bS_0 b)
  have ew : ∀ r2, wo g1 ob r2 = wo g ob r2 := fun r2 => by
    show wth g1 _ 64 = wth g _ 64
    rw [wth_sm, wth_sm, B.wor]
  have ek : (fun v => ∃ r2, r2 ∈ dfs g1 ob 8 ob [ob] [] ∧ rp g1 ob r2 ≤ lb ∧ wo g1 ob r2 = v) = vS g ob lb (ins (qP g a) r) := by
    funext v
    apply propext
    have key : ∀ r2, isRing g ob r2 → rp g1 ob r2 = ra g (ins ob r2) (ins (qP g a) r) := fun r2 hr2 => by
      rw [rp_border Hw1.w7 Hw1.h6 (by rw [B.ring]; exact hr2)]
      unfold ra
      rw [Nat.add_comm]
      refine congr (congrArg _ (pct_cong (fun b _ => ?_))) (pct_cong (fun b _ => ?_))
      · rw [efE]
        cases bE (ins ob r2) b <;> cases fE g b <;> cases bE (ins (qP g a) r) b <;> rfl
      · rw [efS]
        cases bS (ins ob r2) b <;> cases fS g b <;> cases bS (ins (qP g a) r) b <;> rfl
    constructor
    · rintro ⟨r2, x1, x2, x3⟩
      obtain ⟨y1, y2, y3⟩ := (dfs_ring Hw1.w7 Hw1.h6 hob1).mp x1
      rw [B.ring] at y1
      have hd : ∀ b, b < 64 → ins ob r2 b = true → rgd g b = false ∧ ins (qP g a) r b = false := fun b hb hi => by
        have := y3 b hb hi
        rw [er] at this
        cases h1 : rgd g b <;> cases h2 : ins (qP g a) r b <;> rw [h1, h2] at this <;> first | exact ⟨rfl, rfl⟩ | cases this
      refine ⟨r2, (dfs_ring Hw.w7 Hw.h6 hob).mpr ⟨y1, y2, fun b hb hi => (hd b hb hi).1⟩, ⟨fun b hb hi => (hd b hb hi).2, ?_⟩, by rw [← ew]; exact x3⟩
      rw [← key r2 y1]; exact x2
    · rintro ⟨r2, x1, ⟨x2, x3⟩, x4⟩
      obtain ⟨y1, y2, y3⟩ := (dfs_ring Hw.w7 Hw.h6 hob).mp x1
      refine ⟨r2, (dfs_ring Hw1.w7 Hw1.h6 hob1).mpr ⟨by rw [B.ring]; exact y1, y2, fun b hb hi => ?_⟩, by rw [key r2 y1]; exact x3, by rw [ew]; exact x4⟩
      rw [er, y3 b hb hi, x2 b hb hi]; rfl
  rw [ek] at h3
  exact h3
/-! the class' loop -/
def lxI (a : Option (Nat × Nat)) : Int32 := match a with
  | none => nNo
  | some (m, _) => nI m
def oxI (a : Option (Nat × Nat)) : Int32 := match a with
  | none => nNo
  | some (_, m) => nI m
def bdL (a : Option (Nat × Nat)) : Prop := ∀ m M, a = some (m, M) → m ≤ 576 ∧ M ≤ 576
set_option maxRecDepth 100000 in
set_option maxHeartbeats 400000 in
theorem bdL_s {a : Option (Nat × Nat)} (h : bdL a) {i w : Nat} (hi : i ≤ 576) (hw : w ≤ 576) : bdL (updL a i w) := by
  intro m M e
  match a, h, e with
  | none, _, e => cases e; exact ⟨hi, hw⟩
  | some (m', M'), h, e =>
    unfold updL at e
    by_cases q : i < m' ∨ (i = m' ∧ M' < w)
    · simp only [if_pos q] at e; cases e; exact ⟨hi, hw⟩
    · simp only [if_neg q] at e; cases e; exact h _ _ rfl
set_option maxRecDepth 100000 in
set_option maxHeartbeats 400000 in
theorem z98 {g : Nat → Int32} {a b : Nat} {h : aH} (G : HG h g) (ha : a < qM g) (hb : b < qM g) {K1 K2 : List (List Nat)} (hK1 : K1.length ≤ 72) (hK2 : K2.length ≤ 72) (R1 : RLk g (qP g a) 31 K1 h) (R2 : RLk g (qP g b) 34 K2 h) {wt : Nat} (hwt : wt < 2) (L : Nat) : ∀ (n k : Nat) (lx : Option (Nat × Nat)) (v7 v9 v10 : Value), k + n = K1.length → isLx (fun i w => ∃ j, j < k ∧ ra g (ins (qP g a) (K1.getD j [])) (fun _ => false) ≤ qL g a ∧ isMx (fun v => ∃ r, r ∈ K2 ∧ vB g (qP g b) (qL g b) (ins (qP g a) (K1.getD j [])) r ∧ wo g (qP g b) r = v) i ∧ wo g (qP g a) (K1.getD j []) = w) lx → bdL lx → ∃ lx', isLx (fun i w => ∃ r, r ∈ K1 ∧ ra g (ins (qP g a) r) (fun _ => false) ≤ qL g a ∧ isMx (fun v => ∃ r2, r2 ∈ K2 ∧ vB g (qP g b) (qL g b) (ins (qP g a) r) r2 ∧ wo g (qP g b) r2 = v) i ∧ wo g (qP g a) r = w) lx' ∧ ev 999 98 101 [.ref 8, .int (nI a), .int (nI b), .int (nI wt), .int (lxI lx), .int (oxI lx), .int (nI k), v7, .null, v9, v10] [] (S0 L) h = some (some (.int (if wt = 0 then lxI lx' else oxI lx')), S0 L, h) := by
  have m4 := G.1.m4
  have ea := G.rop ha
  have eb := G.rop hb
  have la := (G.1.rop ha).2
  have lb' := (G.1.rop hb).2
  obtain ⟨j4, j5⟩ := R1
  rw [Nat.min_eq_right hK1] at j4 j5
  intro n
  induction n with
  | zero =>
    intro k lx v7 v9 v10 hk hx hbd
    have hk' : k = K1.length := by omega
    subst hk'
    refine ⟨lx, isLx_c (fun i w => ?_) hx, ?_⟩
    · constructor
      · rintro ⟨j, hj, x1, x2, x3⟩
        refine ⟨K1.getD j [], ?_, x1, x2, x3⟩
        rw [List.getD_eq_getElem?_getD, List.getElem?_eq_getElem hj]
        exact List.getElem_mem hj
      · rintro ⟨r, hr, x1, x2, x3⟩
        obtain ⟨j, hj, e⟩ := List.getElem_of_mem hr
        have eg : K1.getD j [] = r := by rw [List.getD_eq_getElem?_getD, List.getElem?_eq_getElem hj, e]; rfl
        exact ⟨j, hj, by rw [eg]; exact x1, by rw [eg]; exact x2, by rw [eg]; exact x3⟩
    · rw [u98_101]
      rcases (show wt = 0 ∨ wt = 1 by omega) with rfl | rfl
      · simp (disch := first | assumption | omega) only [u98_0, u98_1, u98_4, u98_5, u98_8, u98_11, u98_12, u98_15, u98_16, u98_19, u98_22, u98_23, u98_24, u98_27, u98_28, u98_31, u98_32, u98_35, u98_38, u98_39, u98_42, u98_43, u98_44, u98_47, u98_49, u98_50, u98_51, u98_54, u98_55, u98_58, u98_59, u98_62, u98_65, u98_66, u98_67, u98_70, u98_71, u98_74, u98_75, u98_78, u98_79, u98_82, u98_85, u98_86, u98_87, u98_90, u98_92, u98_94, u98_96, u98_98, u98_99, u98_103, u98_104, u98_107, u98_110, u98_113, u98_114, u98_117, u98_120, u98_122, u98_123, u98_125, u98_126, u98_129, u98_131, u98_132, u98_135, u98_136, u98_139, u98_142, u98_143, u98_144, u98_147, u98_148, u98_151, u98_152, u98_155, u98_157, u98_158, u98_161, u98_164, u98_165, u98_166, u98_169, u98_171, u98_173, u98_175, u98_178, u98_180, u98_182, u98_185, u98_186, u98_189, u98_190, u98_192, u98_194, u98_197, u98_199, u98_201, u98_204, u98_205, u98_208, u98_211, u98_213, u98_214, u98_216, u98_219, u98_221, u98_223, u98_224, u98_227, u98_230, u98_232, u98_233, u98_235, u98_238, u98_241, u98_242, u98_245, u98_247, u98_250, u98_252, ↓br_eq, ↓reduceIte, gd_true, ls_0, ls_1i, ls_1r, ls_1n, ls_1l, ls_2, ls2_eq, List.set_cons_zero, List.set_cons_succ, rf_s, cs_nil, cs_int, cs_ref, cs_long, Option.bind_some, Option.toList_some, Option.toList_none, List.nil_append, List.cons_append, Nat.reduceAdd, Nat.reduceSub, Nat.reduceMul, Nat.reduceLT, Nat.reduceLeDiff, Nat.reduceEqDiff, Int32.reduceAdd, Int32.reduceSub, Int32.reduceMul, Int32.reduceLT, Int32.reduceLE, Int32.reduceToInt, Int32.reduceToNatClampNeg, Int.reduceLE, Int.reduceLT, Int.reduceSub, Int.reduceToNat, and_self, true_and, and_true, or_true, true_or, false_or, or_false, false_and, and_false, not_false_eq_true, not_true_eq_false, eq_self, ↓li_m1, li_0, li_1, li_2, li_3, li_4, li_5, li_6, li_7, li_8, li_10, li_11, li_12, li_13, li_14, li_16, li_20, li_21, li_22, li_23, li_24, li_26, li_32, li_40, li_42, li_46, li_48, li_56, li_57, li_59, li_64, li_72, li_97, li_100, li_102, li_106, li_110, li_119, li_122, li_127, li_194, li_224, li_255, li_300, li_320, li_388, li_500, li_832, li_1000, ltT, ltF, leT, leF, eqT, eqF, eqmF, eqmF2, mlt, mle, mlt2, mle2, inT, cl, sbN, adm, mad, nI_add, pk_mul, dvN, rmN, rmN2, ofN, bo1, bo0, xle, xlt, xnl, xnt, xgt, xgt2, xge, xge0, xmo, dmN, kS0, lS0, kS1, lS1, kS2, lS2, kS3, lS3, kS4, lS4, kS5, lS5, kS6, lS6, kS7, lS7, kS8, fS8_0, fS8_1, fS8_2, fS8_3, fS8_4, fS8_5, fS8_6, fS8_7, fS8_8, fS8_9, kS9, lS9, fS9_0, fS9_1, fS9_2, fS9_3, fS9_4, fS9_5, fS9_6, fS9_7, kS10, fS10_0, fS10_1, kS11, fS11_0, kS12, lS12, kS13, fS13_5, fS13_6, fS13_7, fS13_8, fS13_9, kS14, lS14, kS15, lS15, kS16, lS16, kS17, lS17, kS18, lS18, kS19, fS19_5, fS19_6, fS19_7, fS19_8, fS19_9, kS20, lS20, kS21, lS21, kS22, lS22, kS23, lS23, kS24, lS24, kS25, lS25, fS25_0, fS25_1, kS26, kS27, fS27_3, fS27_4, fS27_5, kS28, lS28, kS29, lS29, kS30, lS30, kS31, fS31_3, fS31_4, kS32, lS32, kS33, lS33, kS34, fS34_3, fS34_4, kS35, lS35, kS36, lS36, kS37, kS38, fS38_0, kS39, lS39, kS40, fS40_0, kS41, lS41, kS42, fS42_0, kS43, lS43, kS44, fS44_0, kS45, lS45, kS46, fS46_0, kS47, lS47, kS48, fS48_0, kS49, lS49, kS50, fS50_0, kS51, lS51, kS52, fS52_0, kS53, lS53, kS54, fS54_0, kS55, lS55, kS56, fS56_5, fS56_6, fS56_7, fS56_8, fS56_9, kS57, lS57, kS58, lS58, kS59, lS59, kS60, lS60, kS61, lS61, kS62, fS62_5, fS62_6, fS62_7, fS62_8, fS62_9, kS63, lS63, kS64, lS64, kS65, lS65, kS66, lS66, kS67, lS67, kS68, fS68_2, fS68_3, fS68_4, fS68_5, fS68_6, fS68_8, fS68_18, fS68_19, fS68_21, fS68_22, fS68_23, fS68_24, fS68_25, fS68_26, fS68_27, fS68_28, fS68_30, fS68_32, fS68_33, fS68_34, fS68_35, kS69, lS69, kS70, lS70, kS71, lS71, kS72, lS72, kS73, lS73, kS74, lS74, kS75, lS75, kS76, lS76, kS77, lS77, kS78, lS78, kS79, lS79, kS80, lS80, kS81, lS81, kS82, lS82, kS83, lS83, kS84, lS84, kS85, lS85, kS86, lS86, kS87, lS87, kS88, lS88, kS89, lS89, j4]
      · simp (disch := first | assumption | omega) only [u98_0, u98_1, u98_4, u98_5, u98_8, u98_11, u98_12, u98_15, u98_16, u98_19, u98_22, u98_23, u98_24, u98_27, u98_28, u98_31, u98_32, u98_35, u98_38, u98_39, u98_42, u98_43, u98_44, u98_47, u98_49, u98_50, u98_51, u98_54, u98_55, u98_58, u98_59, u98_62, u98_65, u98_66, u98_67, u98_70, u98_71, u98_74, u98_75, u98_78, u98_79, u98_82, u98_85, u98_86, u98_87, u98_90, u98_92, u98_94, u98_96, u98_98, u98_99, u98_103, u98_104, u98_107, u98_110, u98_113, u98_114, u98_117, u98_120, u98_122, u98_123, u98_125, u98_126, u98_129, u98_131, u98_132, u98_135, u98_136, u98_139, u98_142, u98_143, u98_144, u98_147, u98_148, u98_151, u98_152, u98_155, u98_157, u98_158, u98_161, u98_164, u98_165, u98_166, u98_169, u98_171, u98_173, u98_175, u98_178, u98_180, u98_182, u98_185, u98_186, u98_189, u98_190, u98_192, u98_194, u98_197, u98_199, u98_201, u98_204, u98_205, u98_208, u98_211, u98_213, u98_214, u98_216, u98_219, u98_221, u98_223, u98_224, u98_227, u98_230, u98_232, u98_233, u98_235, u98_238, u98_241, u98_242, u98_245, u98_247, u98_250, u98_252, ↓br_eq, ↓reduceIte, gd_true, ls_0, ls_1i, ls_1r, ls_1n, ls_1l, ls_2, ls2_eq, List.set_cons_zero, List.set_cons_succ, rf_s, cs_nil, cs_int, cs_ref, cs_long, Option.bind_some, Option.toList_some, Option.toList_none, List.nil_append, List.cons_append, Nat.reduceAdd, Nat.reduceSub, Nat.reduceMul, Nat.reduceLT, Nat.reduceLeDiff, Nat.reduceEqDiff, Int32.reduceAdd, Int32.reduceSub, Int32.reduceMul, Int32.reduceLT, Int32.reduceLE, Int32.reduceToInt, Int32.reduceToNatClampNeg, Int.reduceLE, Int.reduceLT, Int.reduceSub, Int.reduceToNat, and_self, true_and, and_true, or_true, true_or, false_or, or_false, false_and, and_false, not_false_eq_true, not_true_eq_false, eq_self, ↓li_m1, li_0, li_1, li_2, li_3, li_4, li_5, li_6, li_7, li_8, li_10, li_11, li_12, li_13, li_14, li_16, li_20, li_21, li_22, li_23, li_24, li_26, li_32, li_40, li_42, li_46, li_48, li_56, li_57, li_59, li_64, li_72, li_97, li_100, li_102, li_106, li_110, li_119, li_122, li_127, li_194, li_224, li_255, li_300, li_320, li_388, li_500, li_832, li_1000, ltT, ltF, leT, leF, eqT, eqF, eqmF, eqmF2, mlt, mle, mlt2, mle2, inT, cl, sbN, adm, mad, nI_add, pk_mul, dvN, rmN, rmN2, ofN, bo1, bo0, xle, xlt, xnl, xnt, xgt, xgt2, xge, xge0, xmo, dmN, kS0, lS0, kS1, lS1, kS2, lS2, kS3, lS3, kS4, lS4, kS5, lS5, kS6, lS6, kS7, lS7, kS8, fS8_0, fS8_1, fS8_2, fS8_3, fS8_4, fS8_5, fS8_6, fS8_7, fS8_8, fS8_9, kS9, lS9, fS9_0, fS9_1, fS9_2, fS9_3, fS9_4, fS9_5, fS9_6, fS9_7, kS10, fS10_0, fS10_1, kS11, fS11_0, kS12, lS12, kS13, fS13_5, fS13_6, fS13_7, fS13_8, fS13_9, kS14, lS14, kS15, lS15, kS16, lS16, kS17, lS17, kS18, lS18, kS19, fS19_5, fS19_6, fS19_7, fS19_8, fS19_9, kS20, lS20, kS21, lS21, kS22, lS22, kS23, lS23, kS24, lS24, kS25, lS25, fS25_0, fS25_1, kS26, kS27, fS27_3, fS27_4, fS27_5, kS28, lS28, kS29, lS29, kS30, lS30, kS31, fS31_3, fS31_4, kS32, lS32, kS33, lS33, kS34, fS34_3, fS34_4, kS35, lS35, kS36, lS36, kS37, kS38, fS38_0, kS39, lS39, kS40, fS40_0, kS41, lS41, kS42, fS42_0, kS43, lS43, kS44, fS44_0, kS45, lS45, kS46, fS46_0, kS47, lS47, kS48, fS48_0, kS49, lS49, kS50, fS50_0, kS51, lS51, kS52, fS52_0, kS53, lS53, kS54, fS54_0, kS55, lS55, kS56, fS56_5, fS56_6, fS56_7, fS56_8, fS56_9, kS57, lS57, kS58, lS58, kS59, lS59, kS60, lS60, kS61, lS61, kS62, fS62_5, fS62_6, fS62_7, fS62_8, fS62_9, kS63, lS63, kS64, lS64, kS65, lS65, kS66, lS66, kS67, lS67, kS68, fS68_2, fS68_3, fS68_4, fS68_5, fS68_6, fS68_8, fS68_18, fS68_19, fS68_21, fS68_22, fS68_23, fS68_24, fS68_25, fS68_26, fS68_27, fS68_28, fS68_30, fS68_32, fS68_33, fS68_34, fS68_35, kS69, lS69, kS70, lS70, kS71, lS71, kS72, lS72, kS73, lS73, kS74, lS74, kS75, lS75, kS76, lS76, kS77, lS77, kS78, lS78, kS79, lS79, kS80, lS80, kS81, lS81, kS82, lS82, kS83, lS83, kS84, lS84, kS85, lS85, kS86, lS86, kS87, lS87, kS88, lS88, kS89, lS89, j4]
  | succ n ih =>
    intro k lx v7 v9 v10 hk hx hbd
    obtain ⟨u1, u2⟩ := j5 k (by omega)
    have a1 := k35r G u1 (y := 0) (o := fun _ => false) (fun i _ => lb_0 i) L 997
    have ral : ra g (ins (qP g a) (K1.getD k [])) (fun _ => false) ≤ 128 := by
      unfold ra
      have := pct_le (fun b => bE (ins (qP g a) (K1.getD k [])) b && !fE g b && !bE (fun _ => false) b) 64
      have := pct_le (fun b => bS (ins (qP g a) (K1.getD k [])) b && !fS g b && !bS (fun _ => false) b) 64
      omega
    rw [u98_101]
    by_cases q : ra g (ins (qP g a) (K1.getD k [])) (fun _ => false) ≤ qL g a
    · obtain ⟨m, c1, c2, c3⟩ := k56 (w := 34) (by omega) (by omega) (rl34 L) G lb' hK2 R2 u1 996
      have wl := wth_le G.1 (ins (qP g a) (K1.getD k []))
      have ewo : wo g (qP g a) (K1.getD k []) = wth g (ins (qP g a) (K1.getD k [])) 64 := rfl
      have hx' := isLx_c (Q' := fun i w => ∃ j, j < k + 1 ∧ ra g (ins (qP g a) (K1.getD j [])) (fun _ => false) ≤ qL g a ∧ isMx (fun v => ∃ r, r ∈ K2 ∧ vB g (qP g b) (qL g b) (ins (qP g a) (K1.getD j [])) r ∧ wo g (qP g b) r = v) i ∧ wo g (qP g a) (K1.getD j []) = w) (fun i w => by
        constructor
        · rintro (⟨j, hj, x⟩ | ⟨e1, e2⟩)
          · exact ⟨j, by omega, x⟩
          · exact ⟨k, by omega, q, by rw [e1]; exact c1, e2.symm⟩
        · rintro ⟨j, hj, x1, x2, x3⟩
          by_cases z : j = k
          · rw [z] at x2 x3; exact Or.inr ⟨isMx_u x2 c1, x3.symm⟩
          · exact Or.inl ⟨j, by omega, x1, x2, x3⟩) (isLx_s hx m (wo g (qP g a) (K1.getD k [])))
      have hbd' := bdL_s hbd c2 (show wo g (qP g a) (K1.getD k []) ≤ 576 by omega)
      match lx, hbd, hx', hbd' with
      | none, _, hx', hbd' =>
        obtain ⟨lx', d1, d2⟩ := ih (k + 1) (some (m, wo g (qP g a) (K1.getD k []))) (.long (h.2.1 32 k)) (.int (nI m)) (.int (nI 1)) (by omega) hx' hbd'
        refine ⟨lx', d1, ?_⟩
        have d2' : ev 999 98 101 [.ref 8, .int (nI a), .int (nI b), .int (nI wt), .int (nI m), .int (nI (wo g (qP g a) (K1.getD k []))), .int (nI (k + 1)), .long (h.2.1 32 k), .null, .int (nI m), .int (nI 1)] [] (S0 L) h = some (some (.int (if wt = 0 then lxI lx' else oxI lx')), S0 L, h) := d2
        rw [show lxI none = nNo from rfl, show oxI none = nNo from rfl]
        generalize wo g (qP g a) (K1.getD k []) = wv at *
        generalize (if wt = 0 then lxI lx' else oxI lx') = fv at *
        simp (disch := first | assumption | omega) only [u98_0, u98_1, u98_4, u98_5, u98_8, u98_11, u98_12, u98_15, u98_16, u98_19, u98_22, u98_23, u98_24, u98_27, u98_28, u98_31, u98_32, u98_35, u98_38, u98_39, u98_42, u98_43, u98_44, u98_47, u98_49, u98_50, u98_51, u98_54, u98_55, u98_58, u98_59, u98_62, u98_65, u98_66, u98_67, u98_70, u98_71, u98_74, u98_75, u98_78, u98_79, u98_82, u98_85, u98_86, u98_87, u98_90, u98_92, u98_94, u98_96, u98_98, u98_99, u98_103, u98_104, u98_107, u98_110, u98_113, u98_114, u98_117, u98_120, u98_122, u98_123, u98_125, u98_126, u98_129, u98_131, u98_132, u98_135, u98_136, u98_139, u98_142, u98_143, u98_144, u98_147, u98_148, u98_151, u98_152, u98_155, u98_157, u98_158, u98_161, u98_164, u98_165, u98_166, u98_169, u98_171, u98_173, u98_175, u98_178, u98_180, u98_182, u98_185, u98_186, u98_189, u98_190, u98_192, u98_194, u98_197, u98_199, u98_201, u98_204, u98_205, u98_208, u98_211, u98_213, u98_214, u98_216, u98_219, u98_221, u98_223, u98_224, u98_227, u98_230, u98_232, u98_233, u98_235, u98_238, u98_241, u98_242, u98_245, u98_247, u98_250, u98_252, ↓br_eq, ↓reduceIte, gd_true, ls_0, ls_1i, ls_1r, ls_1n, ls_1l, ls_2, ls2_eq, List.set_cons_zero, List.set_cons_succ, rf_s, cs_nil, cs_int, cs_ref, cs_long, Option.bind_some, Option.toList_some, Option.toList_none, List.nil_append, List.cons_append, Nat.reduceAdd, Nat.reduceSub, Nat.reduceMul, Nat.reduceLT, Nat.reduceLeDiff, Nat.reduceEqDiff, Int32.reduceAdd, Int32.reduceSub, Int32.reduceMul, Int32.reduceLT, Int32.reduceLE, Int32.reduceToInt, Int32.reduceToNatClampNeg, Int.reduceLE, Int.reduceLT, Int.reduceSub, Int.reduceToNat, and_self, true_and, and_true, or_true, true_or, false_or, or_false, false_and, and_false, not_false_eq_true, not_true_eq_false, eq_self, ↓li_m1, li_0, li_1, li_2, li_3, li_4, li_5, li_6, li_7, li_8, li_10, li_11, li_12, li_13, li_14, li_16, li_20, li_21, li_22, li_23, li_24, li_26, li_32, li_40, li_42, li_46, li_48, li_56, li_57, li_59, li_64, li_72, li_97, li_100, li_102, li_106, li_110, li_119, li_122, li_127, li_194, li_224, li_255, li_300, li_320, li_388, li_500, li_832, li_1000, ltT, ltF, leT, leF, eqT, eqF, eqmF, eqmF2, mlt, mle, mlt2, mle2, inT, cl, sbN, adm, mad, nI_add, pk_mul, dvN, rmN, rmN2, ofN, bo1, bo0, xle, xlt, xnl, xnt, xgt, xgt2, xge, xge0, xmo, dmN, kS0, lS0, kS1, lS1, kS2, lS2, kS3, lS3, kS4, lS4, kS5, lS5, kS6, lS6, kS7, lS7, kS8, fS8_0, fS8_1, fS8_2, fS8_3, fS8_4, fS8_5, fS8_6, fS8_7, fS8_8, fS8_9, kS9, lS9, fS9_0, fS9_1, fS9_2, fS9_3, fS9_4, fS9_5, fS9_6, fS9_7, kS10, fS10_0, fS10_1, kS11, fS11_0, kS12, lS12, kS13, fS13_5, fS13_6, fS13_7, fS13_8, fS13_9, kS14, lS14, kS15, lS15, kS16, lS16, kS17, lS17, kS18, lS18, kS19, fS19_5, fS19_6, fS19_7, fS19_8, fS19_9, kS20, lS20, kS21, lS21, kS22, lS22, kS23, lS23, kS24, lS24, kS25, lS25, fS25_0, fS25_1, kS26, kS27, fS27_3, fS27_4, fS27_5, kS28, lS28, kS29, lS29, kS30, lS30, kS31, fS31_3, fS31_4, kS32, lS32, kS33, lS33, kS34, fS34_3, fS34_4, kS35, lS35, kS36, lS36, kS37, kS38, fS38_0, kS39, lS39, kS40, fS40_0, kS41, lS41, kS42, fS42_0, kS43, lS43, kS44, fS44_0, kS45, lS45, kS46, fS46_0, kS47, lS47, kS48, fS48_0, kS49, lS49, kS50, fS50_0, kS51, lS51, kS52, fS52_0, kS53, lS53, kS54, fS54_0, kS55, lS55, kS56, fS56_5, fS56_6, fS56_7, fS56_8, fS56_9, kS57, lS57, kS58, lS58, kS59, lS59, kS60, lS60, kS61, lS61, kS62, fS62_5, fS62_6, fS62_7, fS62_8, fS62_9, kS63, lS63, kS64, lS64, kS65, lS65, kS66, lS66, kS67, lS67, kS68, fS68_2, fS68_3, fS68_4, fS68_5, fS68_6, fS68_8, fS68_18, fS68_19, fS68_21, fS68_22, fS68_23, fS68_24, fS68_25, fS68_26, fS68_27, fS68_28, fS68_30, fS68_32, fS68_33, fS68_34, fS68_35, kS69, lS69, kS70, lS70, kS71, lS71, kS72, lS72, kS73, lS73, kS74, lS74, kS75, lS75, kS76, lS76, kS77, lS77, kS78, lS78, kS79, lS79, kS80, lS80, kS81, lS81, kS82, lS82, kS83, lS83, kS84, lS84, kS85, lS85, kS86, lS86, kS87, lS87, kS88, lS88, kS89, lS89, j4, a1, ea, eb, c3, li_no, u2, d2']
      | some (mm, MM), hbd, hx', hbd' =>
        obtain ⟨b1, b2⟩ := hbd mm MM rfl
        have en : (nI mm = nNo) = False := no_nI (by omega)
        rw [show lxI (some (mm, MM)) = nI mm from rfl, show oxI (some (mm, MM)) = nI MM from rfl]
        by_cases q2 : m < mm ∨ (m = mm ∧ MM < wo g (qP g a) (K1.getD k []))
        · have eu : updL (some (mm, MM)) m (wo g (qP g a) (K1.getD k [])) = some (m, wo g (qP g a) (K1.getD k [])) := if_pos q2
          rw [eu] at hx' hbd'
          by_cases q3 : m < mm
          · obtain ⟨lx', d1, d2⟩ := ih (k + 1) _ (.long (h.2.1 32 k)) (.int (nI m)) (.int (nI 1)) (by omega) hx' hbd'
            refine ⟨lx', d1, ?_⟩
            have d2' : ev 999 98 101 [.ref 8, .int (nI a), .int (nI b), .int (nI wt), .int (nI m), .int (nI (wo g (qP g a) (K1.getD k []))), .int (nI (k + 1)), .long (h.2.1 32 k), .null, .int (nI m), .int (nI 1)] [] (S0 L) h = some (some (.int (if wt = 0 then lxI lx' else oxI lx')), S0 L, h) := d2
            generalize wo g (qP g a) (K1.getD k []) = wv at *
            generalize (if wt = 0 then lxI lx' else oxI lx') = fv at *
            simp (disch := first | assumption | omega) only [u98_0, u98_1, u98_4, u98_5, u98_8, u98_11, u98_12, u98_15, u98_16, u98_19, u98_22, u98_23, u98_24, u98_27, u98_28, u98_31, u98_32, u98_35, u98_38, u98_39, u98_42, u98_43, u98_44, u98_47, u98_49, u98_50, u98_51, u98_54, u98_55, u98_58, u98_59, u98_62, u98_65, u98_66, u98_67, u98_70, u98_71, u98_74, u98_75, u98_78, u98_79, u98_82, u98_85, u98_86, u98_87, u98_90, u98_92, u98_94, u98_96, u98_98, u98_99, u98_103, u98_104, u98_107, u98_110, u98_113, u98_114, u98_117, u98_120, u98_122, u98_123, u98_125, u98_126, u98_129, u98_131, u98_132, u98_135, u98_136, u98_139, u98_142, u98_143, u98_144, u98_147, u98_148, u98_151, u98_152, u98_155, u98_157, u98_158, u98_161, u98_164, u98_165, u98_166, u98_169, u98_171, u98_173, u98_175, u98_178, u98_180, u98_182, u98_185, u98_186, u98_189, u98_190, u98_192, u98_194, u98_197, u98_199, u98_201, u98_204, u98_205, u98_208, u98_211, u98_213, u98_214, u98_216, u98_219, u98_221, u98_223, u98_224, u98_227, u98_230, u98_232, u98_233, u98_235, u98_238, u98_241, u98_242, u98_245, u98_247, u98_250, u98_252, ↓br_eq, ↓reduceIte, gd_true, ls_0, ls_1i, ls_1r, ls_1n, ls_1l, ls_2, ls2_eq, List.set_cons_zero, List.set_cons_succ, rf_s, cs_nil, cs_int, cs_ref, cs_long, Option.bind_some, Option.toList_some, Option.toList_none, List.nil_append, List.cons_append, Nat.reduceAdd, Nat.reduceSub, Nat.reduceMul, Nat.reduceLT, Nat.reduceLeDiff, Nat.reduceEqDiff, Int32.reduceAdd, Int32.reduceSub, Int32.reduceMul, Int32.reduceLT, Int32.reduceLE, Int32.reduceToInt, Int32.reduceToNatClampNeg, Int.reduceLE, Int.reduceLT, Int.reduceSub, Int.reduceToNat, and_self, true_and, and_true, or_true, true_or, false_or, or_false, false_and, and_false, not_false_eq_true, not_true_eq_false, eq_self, ↓li_m1, li_0, li_1, li_2, li_3, li_4, li_5, li_6, li_7, li_8, li_10, li_11, li_12, li_13, li_14, li_16, li_20, li_21, li_22, li_23, li_24, li_26, li_32, li_40, li_42, li_46, li_48, li_56, li_57, li_59, li_64, li_72, li_97, li_100, li_102, li_106, li_110, li_119, li_122, li_127, li_194, li_224, li_255, li_300, li_320, li_388, li_500, li_832, li_1000, ltT, ltF, leT, leF, eqT, eqF, eqmF, eqmF2, mlt, mle, mlt2, mle2, inT, cl, sbN, adm, mad, nI_add, pk_mul, dvN, rmN, rmN2, ofN, bo1, bo0, xle, xlt, xnl, xnt, xgt, xgt2, xge, xge0, xmo, dmN, kS0, lS0, kS1, lS1, kS2, lS2, kS3, lS3, kS4, lS4, kS5, lS5, kS6, lS6, kS7, lS7, kS8, fS8_0, fS8_1, fS8_2, fS8_3, fS8_4, fS8_5, fS8_6, fS8_7, fS8_8, fS8_9, kS9, lS9, fS9_0, fS9_1, fS9_2, fS9_3, fS9_4, fS9_5, fS9_6, fS9_7, kS10, fS10_0, fS10_1, kS11, fS11_0, kS12, lS12, kS13, fS13_5, fS13_6, fS13_7, fS13_8, fS13_9, kS14, lS14, kS15, lS15, kS16, lS16, kS17, lS17, kS18, lS18, kS19, fS19_5, fS19_6, fS19_7, fS19_8, fS19_9, kS20, lS20, kS21, lS21, kS22, lS22, kS23, lS23, kS24, lS24, kS25, lS25, fS25_0, fS25_1, kS26, kS27, fS27_3, fS27_4, fS27_5, kS28, lS28, kS29, lS29, kS30, lS30, kS31, fS31_3, fS31_4, kS32, lS32, kS33, lS33, kS34, fS34_3, fS34_4, kS35, lS35, kS36, lS36, kS37, kS38, fS38_0, kS39, lS39, kS40, fS40_0, kS41, lS41, kS42, fS42_0, kS43, lS43, kS44, fS44_0, kS45, lS45, kS46, fS46_0, kS47, lS47, kS48, fS48_0, kS49, lS49, kS50, fS50_0, kS51, lS51, kS52, fS52_0, kS53, lS53, kS54, fS54_0, kS55, lS55, kS56, fS56_5, fS56_6, fS56_7, fS56_8, fS56_9, kS57, lS57, kS58, lS58, kS59, lS59, kS60, lS60, kS61, lS61, kS62, fS62_5, fS62_6, fS62_7, fS62_8, fS62_9, kS63, lS63, kS64, lS64, kS65, lS65, kS66, lS66, kS67, lS67, kS68, fS68_2, fS68_3, fS68_4, fS68_5, fS68_6, fS68_8, fS68_18, fS68_19, fS68_21, fS68_22, fS68_23, fS68_24, fS68_25, fS68_26, fS68_27, fS68_28, fS68_30, fS68_32, fS68_33, fS68_34, fS68_35, kS69, lS69, kS70, lS70, kS71, lS71, kS72, lS72, kS73, lS73, kS74, lS74, kS75, lS75, kS76, lS76, kS77, lS77, kS78, lS78, kS79, lS79, kS80, lS80, kS81, lS81, kS82, lS82, kS83, lS83, kS84, lS84, kS85, lS85, kS86, lS86, kS87, lS87, kS88, lS88, kS89, lS89, j4, a1, ea, eb, c3, li_no, en, u2, d2']
          · obtain ⟨lx', d1, d2⟩ := ih (k + 1) _ (.long (h.2.1 32 k)) (.int (nI m)) (.int (nI 0)) (by omega) hx' hbd'
            refine ⟨lx', d1, ?_⟩
            have d2' : ev 999 98 101 [.ref 8, .int (nI a), .int (nI b), .int (nI wt), .int (nI m), .int (nI (wo g (qP g a) (K1.getD k []))), .int (nI (k + 1)), .long (h.2.1 32 k), .null, .int (nI m), .int (nI 0)] [] (S0 L) h = some (some (.int (if wt = 0 then lxI lx' else oxI lx')), S0 L, h) := d2
            generalize wo g (qP g a) (K1.getD k []) = wv at *
            generalize (if wt = 0 then lxI lx' else oxI lx') = fv at *
            simp (disch := first | assumption | omega) only [u98_0, u98_1, u98_4, u98_5, u98_8, u98_11, u98_12, u98_15, u98_16, u98_19, u98_22, u98_23, u98_24, u98_27, u98_28, u98_31, u98_32, u98_35, u98_38, u98_39, u98_42, u98_43, u98_44, u98_47, u98_49, u98_50, u98_51, u98_54, u98_55, u98_58, u98_59, u98_62, u98_65, u98_66, u98_67, u98_70, u98_71, u98_74, u98_75, u98_78, u98_79, u98_82, u98_85, u98_86, u98_87, u98_90, u98_92, u98_94, u98_96, u98_98, u98_99, u98_103, u98_104, u98_107, u98_110, u98_113, u98_114, u98_117, u98_120, u98_122, u98_123, u98_125, u98_126, u98_129, u98_131, u98_132, u98_135, u98_136, u98_139, u98_142, u98_143, u98_144, u98_147, u98_148, u98_151, u98_152, u98_155, u98_157, u98_158, u98_161, u98_164, u98_165, u98_166, u98_169, u98_171, u98_173, u98_175, u98_178, u98_180, u98_182, u98_185, u98_186, u98_189, u98_190, u98_192, u98_194, u98_197, u98_199, u98_201, u98_204, u98_205, u98_208, u98_211, u98_213, u98_214, u98_216, u98_219, u98_221, u98_223, u98_224, u98_227, u98_230, u98_232, u98_233, u98_235, u98_238, u98_241, u98_242, u98_245, u98_247, u98_250, u98_252, ↓br_eq, ↓reduceIte, gd_true, ls_0, ls_1i, ls_1r, ls_1n, ls_1l, ls_2, ls2_eq, List.set_cons_zero, List.set_cons_succ, rf_s, cs_nil, cs_int, cs_ref, cs_long, Option.bind_some, Option.toList_some, Option.toList_none, List.nil_append, List.cons_append, Nat.reduceAdd, Nat.reduceSub, Nat.reduceMul, Nat.reduceLT, Nat.reduceLeDiff, Nat.reduceEqDiff, Int32.reduceAdd, Int32.reduceSub, Int32.reduceMul, Int32.reduceLT, Int32.reduceLE, Int32.reduceToInt, Int32.reduceToNatClampNeg, Int.reduceLE, Int.reduceLT, Int.reduceSub, Int.reduceToNat, and_self, true_and, and_true, or_true, true_or, false_or, or_false, false_and, and_false, not_false_eq_true, not_true_eq_false, eq_self, ↓li_m1, li_0, li_1, li_2, li_3, li_4, li_5, li_6, li_7, li_8, li_10, li_11, li_12, li_13, li_14, li_16, li_20, li_21, li_22, li_23, li_24, li_26, li_32, li_40, li_42, li_46, li_48, li_56, li_57, li_59, li_64, li_72, li_97, li_100, li_102, li_106, li_110, li_119, li_122, li_127, li_194, li_224, li_255, li_300, li_320, li_388, li_500, li_832, li_1000, ltT, ltF, leT, leF, eqT, eqF, eqmF, eqmF2, mlt, mle, mlt2, mle2, inT, cl, sbN, adm, mad, nI_add, pk_mul, dvN, rmN, rmN2, ofN, bo1, bo0, xle, xlt, xnl, xnt, xgt, xgt2, xge, xge0, xmo, dmN, kS0, lS0, kS1, lS1, kS2, lS2, kS3, lS3, kS4, lS4, kS5, lS5, kS6, lS6, kS7, lS7, kS8, fS8_0, fS8_1, fS8_2, fS8_3, fS8_4, fS8_5, fS8_6, fS8_7, fS8_8, fS8_9, kS9, lS9, fS9_0, fS9_1, fS9_2, fS9_3, fS9_4, fS9_5, fS9_6, fS9_7, kS10, fS10_0, fS10_1, kS11, fS11_0, kS12, lS12, kS13, fS13_5, fS13_6, fS13_7, fS13_8, fS13_9, kS14, lS14, kS15, lS15, kS16, lS16, kS17, lS17, kS18, lS18, kS19, fS19_5, fS19_6, fS19_7, fS19_8, fS19_9, kS20, lS20, kS21, lS21, kS22, lS22, kS23, lS23, kS24, lS24, kS25, lS25, fS25_0, fS25_1, kS26, kS27, fS27_3, fS27_4, fS27_5, kS28, lS28, kS29, lS29, kS30, lS30, kS31, fS31_3, fS31_4, kS32, lS32, kS33, lS33, kS34, fS34_3, fS34_4, kS35, lS35, kS36, lS36, kS37, kS38, fS38_0, kS39, lS39, kS40, fS40_0, kS41, lS41, kS42, fS42_0, kS43, lS43, kS44, fS44_0, kS45, lS45, kS46, fS46_0, kS47, lS47, kS48, fS48_0, kS49, lS49, kS50, fS50_0, kS51, lS51, kS52, fS52_0, kS53, lS53, kS54, fS54_0, kS55, lS55, kS56, fS56_5, fS56_6, fS56_7, fS56_8, fS56_9, kS57, lS57, kS58, lS58, kS59, lS59, kS60, lS60, kS61, lS61, kS62, fS62_5, fS62_6, fS62_7, fS62_8, fS62_9, kS63, lS63, kS64, lS64, kS65, lS65, kS66, lS66, kS67, lS67, kS68, fS68_2, fS68_3, fS68_4, fS68_5, fS68_6, fS68_8, fS68_18, fS68_19, fS68_21, fS68_22, fS68_23, fS68_24, fS68_25, fS68_26, fS68_27, fS68_28, fS68_30, fS68_32, fS68_33, fS68_34, fS68_35, kS69, lS69, kS70, lS70, kS71, lS71, kS72, lS72, kS73, lS73, kS74, lS74, kS75, lS75, kS76, lS76, kS77, lS77, kS78, lS78, kS79, lS79, kS80, lS80, kS81, lS81, kS82, lS82, kS83, lS83, kS84, lS84, kS85, lS85, kS86, lS86, kS87, lS87, kS88, lS88, kS89, lS89, j4, a1, ea, eb, c3, li_no, en, u2, d2']
        · have eu : updL (some (mm, MM)) m (wo g (qP g a) (K1.getD k [])) = some (mm, MM) := if_neg q2
          rw [eu] at hx' hbd'
          obtain ⟨lx', d1, d2⟩ := ih (k + 1) _ (.long (h.2.1 32 k)) (.int (nI m)) (.int (nI 0)) (by omega) hx' hbd'
          refine ⟨lx', d1, ?_⟩
          have d2' : ev 999 98 101 [.ref 8, .int (nI a), .int (nI b), .int (nI wt), .int (nI mm), .int (nI MM), .int (nI (k + 1)), .long (h.2.1 32 k), .null, .int (nI m), .int (nI 0)] [] (S0 L) h = some (some (.int (if wt = 0 then lxI lx' else oxI lx')), S0 L, h) := d2
          by_cases q3 : m = mm
          · generalize wo g (qP g a) (K1.getD k []) = wv at *
            generalize (if wt = 0 then lxI lx' else oxI lx') = fv at *
            simp (disch := first | assumption | omega) only [u98_0, u98_1, u98_4, u98_5, u98_8, u98_11, u98_12, u98_15, u98_16, u98_19, u98_22, u98_23, u98_24, u98_27, u98_28, u98_31, u98_32, u98_35, u98_38, u98_39, u98_42, u98_43, u98_44, u98_47, u98_49, u98_50, u98_51, u98_54, u98_55, u98_58, u98_59, u98_62, u98_65, u98_66, u98_67, u98_70, u98_71, u98_74, u98_75, u98_78, u98_79, u98_82, u98_85, u98_86, u98_87, u98_90, u98_92, u98_94, u98_96, u98_98, u98_99, u98_103, u98_104, u98_107, u98_110, u98_113, u98_114, u98_117, u98_120, u98_122, u98_123, u98_125, u98_126, u98_129, u98_131, u98_132, u98_135, u98_136, u98_139, u98_142, u98_143, u98_144, u98_147, u98_148, u98_151, u98_152, u98_155, u98_157, u98_158, u98_161, u98_164, u98_165, u98_166, u98_169, u98_171, u98_173, u98_175, u98_178, u98_180, u98_182, u98_185, u98_186, u98_189, u98_190, u98_192, u98_194, u98_197, u98_199, u98_201, u98_204, u98_205, u98_208, u98_211, u98_213, u98_214, u98_216, u98_219, u98_221, u98_223, u98_224, u98_227, u98_230, u98_232, u98_233, u98_235, u98_238, u98_241, u98_242, u98_245, u98_247, u98_250, u98_252, ↓br_eq, ↓reduceIte, gd_true, ls_0, ls_1i, ls_1r, ls_1n, ls_1l, ls_2, ls2_eq, List.set_cons_zero, List.set_cons_succ, rf_s, cs_nil, cs_int, cs_ref, cs_long, Option.bind_some, Option.toList_some, Option.toList_none, List.nil_append, List.cons_append, Nat.reduceAdd, Nat.reduceSub, Nat.reduceMul, Nat.reduceLT, Nat.reduceLeDiff, Nat.reduceEqDiff, Int32.reduceAdd, Int32.reduceSub, Int32.reduceMul, Int32.reduceLT, Int32.reduceLE, Int32.reduceToInt, Int32.reduceToNatClampNeg, Int.reduceLE, Int.reduceLT, Int.reduceSub, Int.reduceToNat, and_self, true_and, and_true, or_true, true_or, false_or, or_false, false_and, and_false, not_false_eq_true, not_true_eq_false, eq_self, ↓li_m1, li_0, li_1, li_2, li_3, li_4, li_5, li_6, li_7, li_8, li_10, li_11, li_12, li_13, li_14, li_16, li_20, li_21, li_22, li_23, li_24, li_26, li_32, li_40, li_42, li_46, li_48, li_56, li_57, li_59, li_64, li_72, li_97, li_100, li_102, li_106, li_110, li_119, li_122, li_127, li_194, li_224, li_255, li_300, li_320, li_388, li_500, li_832, li_1000, ltT, ltF, leT, leF, eqT, eqF, eqmF, eqmF2, mlt, mle, mlt2, mle2, inT, cl, sbN, adm, mad, nI_add, pk_mul, dvN, rmN, rmN2, ofN, bo1, bo0, xle, xlt, xnl, xnt, xgt, xgt2, xge, xge0, xmo, dmN, kS0, lS0, kS1, lS1, kS2, lS2, kS3, lS3, kS4, lS4, kS5, lS5, kS6, lS6, kS7, lS7, kS8, fS8_0, fS8_1, fS8_2, fS8_3, fS8_4, fS8_5, fS8_6, fS8_7, fS8_8, fS8_9, kS9, lS9, fS9_0, fS9_1, fS9_2, fS9_3, fS9_4, fS9_5, fS9_6, fS9_7, kS10, fS10_0, fS10_1, kS11, fS11_0, kS12, lS12, kS13, fS13_5, fS13_6, fS13_7, fS13_8, fS13_9, kS14, lS14, kS15, lS15, kS16, lS16, kS17, lS17, kS18, lS18, kS19, fS19_5, fS19_6, fS19_7, fS19_8, fS19_9, kS20, lS20, kS21, lS21, kS22, lS22, kS23, lS23, kS24, lS24, kS25, lS25, fS25_0, fS25_1, kS26, kS27, fS27_3, fS27_4, fS27_5, kS28, lS28, kS29, lS29, kS30, lS30, kS31, fS31_3, fS31_4, kS32, lS32, kS33, lS33, kS34, fS34_3, fS34_4, kS35, lS35, kS36, lS36, kS37, kS38, fS38_0, kS39, lS39, kS40, fS40_0, kS41, lS41, kS42, fS42_0, kS43, lS43, kS44, fS44_0, kS45, lS45, kS46, fS46_0, kS47, lS47, kS48, fS48_0, kS49, lS49, kS50, fS50_0, kS51, lS51, kS52, fS52_0, kS53, lS53, kS54, fS54_0, kS55, lS55, kS56, fS56_5, fS56_6, fS56_7, fS56_8, fS56_9, kS57, lS57, kS58, lS58, kS59, lS59, kS60, lS60, kS61, lS61, kS62, fS62_5, fS62_6, fS62_7, fS62_8, fS62_9, kS63, lS63, kS64, lS64, kS65, lS65, kS66, lS66, kS67, lS67, kS68, fS68_2, fS68_3, fS68_4, fS68_5, fS68_6, fS68_8, fS68_18, fS68_19, fS68_21, fS68_22, fS68_23, fS68_24, fS68_25, fS68_26, fS68_27, fS68_28, fS68_30, fS68_32, fS68_33, fS68_34, fS68_35, kS69, lS69, kS70, lS70, kS71, lS71, kS72, lS72, kS73, lS73, kS74, lS74, kS75, lS75, kS76, lS76, kS77, lS77, kS78, lS78, kS79, lS79, kS80, lS80, kS81, lS81, kS82, lS82, kS83, lS83, kS84, lS84, kS85, lS85, kS86, lS86, kS87, lS87, kS88, lS88, kS89, lS89, j4, a1, ea, eb, c3, li_no, en, u2, d2']
          · generalize wo g (qP g a) (K1.getD k []) = wv at *
            generalize (if wt = 0 then lxI lx' else oxI lx') = fv at *
            simp (disch := first | assumption | omega) only [u98_0, u98_1, u98_4, u98_5, u98_8, u98_11, u98_12, u98_15, u98_16, u98_19, u98_22, u98_23, u98_24, u98_27, u98_28, u98_31, u98_32, u98_35, u98_38, u98_39, u98_42, u98_43, u98_44, u98_47, u98_49, u98_50, u98_51, u98_54, u98_55, u98_58, u98_59, u98_62, u98_65, u98_66, u98_67, u98_70, u98_71, u98_74, u98_75, u98_78, u98_79, u98_82, u98_85, u98_86, u98_87, u98_90, u98_92, u98_94, u98_96, u98_98, u98_99, u98_103, u98_104, u98_107, u98_110, u98_113, u98_114, u98_117, u98_120, u98_122, u98_123, u98_125, u98_126, u98_129, u98_131, u98_132, u98_135, u98_136, u98_139, u98_142, u98_143, u98_144, u98_147, u98_148, u98_151, u98_152, u98_155, u98_157, u98_158, u98_161, u98_164, u98_165, u98_166, u98_169, u98_171, u98_173, u98_175, u98_178, u98_180, u98_182, u98_185, u98_186, u98_189, u98_190, u98_192, u98_194, u98_197, u98_199, u98_201, u98_204, u98_205, u98_208, u98_211, u98_213, u98_214, u98_216, u98_219, u98_221, u98_223, u98_224, u98_227, u98_230, u98_232, u98_233, u98_235, u98_238, u98_241, u98_242, u98_245, u98_247, u98_250, u98_252, ↓br_eq, ↓reduceIte, gd_true, ls_0, ls_1i, ls_1r, ls_1n, ls_1l, ls_2, ls2_eq, List.set_cons_zero, List.set_cons_succ, rf_s, cs_nil, cs_int, cs_ref, cs_long, Option.bind_some, Option.toList_some, Option.toList_none, List.nil_append, List.cons_append, Nat.reduceAdd, Nat.reduceSub, Nat.reduceMul, Nat.reduceLT, Nat.reduceLeDiff, Nat.reduceEqDiff, Int32.reduceAdd, Int32.reduceSub, Int32.reduceMul, Int32.reduceLT, Int32.reduceLE, Int32.reduceToInt, Int32.reduceToNatClampNeg, Int.reduceLE, Int.reduceLT, Int.reduceSub, Int.reduceToNat, and_self, true_and, and_true, or_true, true_or, false_or, or_false, false_and, and_false, not_false_eq_true, not_true_eq_false, eq_self, ↓li_m1, li_0, li_1, li_2, li_3, li_4, li_5, li_6, li_7, li_8, li_10, li_11, li_12, li_13, li_14, li_16, li_20, li_21, li_22, li_23, li_24, li_26, li_32, li_40, li_42, li_46, li_48, li_56, li_57, li_59, li_64, li_72, li_97, li_100, li_102, li_106, li_110, li_119, li_122, li_127, li_194, li_224, li_255, li_300, li_320, li_388, li_500, li_832, li_1000, ltT, ltF, leT, leF, eqT, eqF, eqmF, eqmF2, mlt, mle, mlt2, mle2, inT, cl, sbN, adm, mad, nI_add, pk_mul, dvN, rmN, rmN2, ofN, bo1, bo0, xle, xlt, xnl, xnt, xgt, xgt2, xge, xge0, xmo, dmN, kS0, lS0, kS1, lS1, kS2, lS2, kS3, lS3, kS4, lS4, kS5, lS5, kS6, lS6, kS7, lS7, kS8, fS8_0, fS8_1, fS8_2, fS8_3, fS8_4, fS8_5, fS8_6, fS8_7, fS8_8, fS8_9, kS9, lS9, fS9_0, fS9_1, fS9_2, fS9_3, fS9_4, fS9_5, fS9_6, fS9_7, kS10, fS10_0, fS10_1, kS11, fS11_0, kS12, lS12, kS13, fS13_5, fS13_6, fS13_7, fS13_8, fS13_9, kS14, lS14, kS15, lS15, kS16, lS16, kS17, lS17, kS18, lS18, kS19, fS19_5, fS19_6, fS19_7, fS19_8, fS19_9, kS20, lS20, kS21, lS21, kS22, lS22, kS23, lS23, kS24, lS24, kS25, lS25, fS25_0, fS25_1, kS26, kS27, fS27_3, fS27_4, fS27_5, kS28, lS28, kS29, lS29, kS30, lS30, kS31, fS31_3, fS31_4, kS32, lS32, kS33, lS33, kS34, fS34_3, fS34_4, kS35, lS35, kS36, lS36, kS37, kS38, fS38_0, kS39, lS39, kS40, fS40_0, kS41, lS41, kS42, fS42_0, kS43, lS43, kS44, fS44_0, kS45, lS45, kS46, fS46_0, kS47, lS47, kS48, fS48_0, kS49, lS49, kS50, fS50_0, kS51, lS51, kS52, fS52_0, kS53, lS53, kS54, fS54_0, kS55, lS55, kS56, fS56_5, fS56_6, fS56_7, fS56_8, fS56_9, kS57, lS57, kS58, lS58, kS59, lS59, kS60, lS60, kS61, lS61, kS62, fS62_5, fS62_6, fS62_7, fS62_8, fS62_9, kS63, lS63, kS64, lS64, kS65, lS65, kS66, lS66, kS67, lS67, kS68, fS68_2, fS68_3, fS68_4, fS68_5, fS68_6, fS68_8, fS68_18, fS68_19, fS68_21, fS68_22, fS68_23, fS68_24, fS68_25, fS68_26, fS68_27, fS68_28, fS68_30, fS68_32, fS68_33, fS68_34, fS68_35, kS69, lS69, kS70, lS70, kS71, lS71, kS72, lS72, kS73, lS73, kS74, lS74, kS75, lS75, kS76, lS76, kS77, lS77, kS78, lS78, kS79, lS79, kS80, lS80, kS81, lS81, kS82, lS82, kS83, lS83, kS84, lS84, kS85, lS85, kS86, lS86, kS87, lS87, kS88, lS88, kS89, lS89, j4, a1, ea, eb, c3, li_no, en, u2, d2']
    · have hx' := isLx_c (Q' := fun i w => ∃ j, j < k + 1 ∧ ra g (ins (qP g a) (K1.getD j [])) (fun _ => false) ≤ qL g a ∧ isMx (fun v => ∃ r, r ∈ K2 ∧ vB g (qP g b) (qL g b) (ins (qP g a) (K1.getD j [])) r ∧ wo g (qP g b) r = v) i ∧ wo g (qP g a) (K1.getD j []) = w) (fun i w => by
        constructor
        · rintro ⟨j, hj, x⟩; exact ⟨j, by omega, x⟩
        · rintro ⟨j, hj, x1, x2⟩
          by_cases z : j = k
          · rw [z] at x1; exact absurd x1 q
          · exact ⟨j, by omega, x1, x2⟩) hx
      obtain ⟨lx', d1, d2⟩ := ih (k + 1) lx (.long (h.2.1 32 k)) v9 v10 (by omega) hx' hbd
      refine ⟨lx', d1, ?_⟩
      generalize (if wt = 0 then lxI lx' else oxI lx') = fv at *
      simp (disch := first | assumption | omega) only [u98_0, u98_1, u98_4, u98_5, u98_8, u98_11, u98_12, u98_15, u98_16, u98_19, u98_22, u98_23, u98_24, u98_27, u98_28, u98_31, u98_32, u98_35, u98_38, u98_39, u98_42, u98_43, u98_44, u98_47, u98_49, u98_50, u98_51, u98_54, u98_55, u98_58, u98_59, u98_62, u98_65, u98_66, u98_67, u98_70, u98_71, u98_74, u98_75, u98_78, u98_79, u98_82, u98_85, u98_86, u98_87, u98_90, u98_92, u98_94, u98_96, u98_98, u98_99, u98_103, u98_104, u98_107, u98_110, u98_113, u98_114, u98_117, u98_120, u98_122, u98_123, u98_125, u98_126, u98_129, u98_131, u98_132, u98_135, u98_136, u98_139, u98_142, u98_143, u98_144, u98_147, u98_148, u98_151, u98_152, u98_155, u98_157, u98_158, u98_161, u98_164, u98_165, u98_166, u98_169, u98_171, u98_173, u98_175, u98_178, u98_180, u98_182, u98_185, u98_186, u98_189, u98_190, u98_192, u98_194, u98_197, u98_199, u98_201, u98_204, u98_205, u98_208, u98_211, u98_213, u98_214, u98_216, u98_219, u98_221, u98_223, u98_224, u98_227, u98_230, u98_232, u98_233, u98_235, u98_238, u98_241, u98_242, u98_245, u98_247, u98_250, u98_252, ↓br_eq, ↓reduceIte, gd_true, ls_0, ls_1i, ls_1r, ls_1n, ls_1l, ls_2, ls2_eq, List.set_cons_zero, List.set_cons_succ, rf_s, cs_nil, cs_int, cs_ref, cs_long, Option.bind_some, Option.toList_some, Option.toList_none, List.nil_append, List.cons_append, Nat.reduceAdd, Nat.reduceSub, Nat.reduceMul, Nat.reduceLT, Nat.reduceLeDiff, Nat.reduceEqDiff, Int32.reduceAdd, Int32.reduceSub, Int32.reduceMul, Int32.reduceLT, Int32.reduceLE, Int32.reduceToInt, Int32.reduceToNatClampNeg, Int.reduceLE, Int.reduceLT, Int.reduceSub, Int.reduceToNat, and_self, true_and, and_true, or_true, true_or, false_or, or_false, false_and, and_false, not_false_eq_true, not_true_eq_false, eq_self, ↓li_m1, li_0, li_1, li_2, li_3, li_4, li_5, li_6, li_7, li_8, li_10, li_11, li_12, li_13, li_14, li_16, li_20, li_21, li_22, li_23, li_24, li_26, li_32, li_40, li_42, li_46, li_48, li_56, li_57, li_59, li_64, li_72, li_97, li_100, li_102, li_106, li_110, li_119, li_122, li_127, li_194, li_224, li_255, li_300, li_320, li_388, li_500, li_832, li_1000, ltT, ltF, leT, leF, eqT, eqF, eqmF, eqmF2, mlt, mle, mlt2, mle2, inT, cl, sbN, adm, mad, nI_add, pk_mul, dvN, rmN, rmN2, ofN, bo1, bo0, xle, xlt, xnl, xnt, xgt, xgt2, xge, xge0, xmo, dmN, kS0, lS0, kS1, lS1, kS2, lS2, kS3, lS3, kS4, lS4, kS5, lS5, kS6, lS6, kS7, lS7, kS8, fS8_0, fS8_1, fS8_2, fS8_3, fS8_4, fS8_5, fS8_6, fS8_7, fS8_8, fS8_9, kS9, lS9, fS9_0, fS9_1, fS9_2, fS9_3, fS9_4, fS9_5, fS9_6, fS9_7, kS10, fS10_0, fS10_1, kS11, fS11_0, kS12, lS12, kS13, fS13_5, fS13_6, fS13_7, fS13_8, fS13_9, kS14, lS14, kS15, lS15, kS16, lS16, kS17, lS17, kS18, lS18, kS19, fS19_5, fS19_6, fS19_7, fS19_8, fS19_9, kS20, lS20, kS21, lS21, kS22, lS22, kS23, lS23, kS24, lS24, kS25, lS25, fS25_0, fS25_1, kS26, kS27, fS27_3, fS27_4, fS27_5, kS28, lS28, kS29, lS29, kS30, lS30, kS31, fS31_3, fS31_4, kS32, lS32, kS33, lS33, kS34, fS34_3, fS34_4, kS35, lS35, kS36, lS36, kS37, kS38, fS38_0, kS39, lS39, kS40, fS40_0, kS41, lS41, kS42, fS42_0, kS43, lS43, kS44, fS44_0, kS45, lS45, kS46, fS46_0, kS47, lS47, kS48, fS48_0, kS49, lS49, kS50, fS50_0, kS51, lS51, kS52, fS52_0, kS53, lS53, kS54, fS54_0, kS55, lS55, kS56, fS56_5, fS56_6, fS56_7, fS56_8, fS56_9, kS57, lS57, kS58, lS58, kS59, lS59, kS60, lS60, kS61, lS61, kS62, fS62_5, fS62_6, fS62_7, fS62_8, fS62_9, kS63, lS63, kS64, lS64, kS65, lS65, kS66, lS66, kS67, lS67, kS68, fS68_2, fS68_3, fS68_4, fS68_5, fS68_6, fS68_8, fS68_18, fS68_19, fS68_21, fS68_22, fS68_23, fS68_24, fS68_25, fS68_26, fS68_27, fS68_28, fS68_30, fS68_32, fS68_33, fS68_34, fS68_35, kS69, lS69, kS70, lS70, kS71, lS71, kS72, lS72, kS73, lS73, kS74, lS74, kS75, lS75, kS76, lS76, kS77, lS77, kS78, lS78, kS79, lS79, kS80, lS80, kS81, lS81, kS82, lS82, kS83, lS83, kS84, lS84, kS85, lS85, kS86, lS86, kS87, lS87, kS88, lS88, kS89, lS89, j4, a1, ea, d2]
