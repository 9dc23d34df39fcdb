/-! the marks of the rings, as the reference lays them -/
set_option maxRecDepth 100000 in
set_option maxHeartbeats 400000 in
theorem sxi (c : Nat) (hc : c < 56) (w : Nat) (hw : w < 4) (v : Nat) (hv : v < 4) (h1 : st7 c w = true) (h2 : st7 c v = true) (h : sx c w = sx c v) : w = v := by
  have h1 := of_decide_eq_true h1
  have h2 := of_decide_eq_true h2
  unfold sx at h
  rcases (show w = 0 ∨ w = 1 ∨ w = 2 ∨ w = 3 by omega) with rfl | rfl | rfl | rfl <;> rcases (show v = 0 ∨ v = 1 ∨ v = 2 ∨ v = 3 by omega) with rfl | rfl | rfl | rfl <;> simp at h h1 h2 ⊢ <;> omega
set_option maxRecDepth 100000 in
set_option maxHeartbeats 400000 in
theorem dsts_mem : ∀ (ws : List Nat) (c0 : Nat), wk c0 ws → ∀ c w, c < 56 → w < 4 → st7 c w = true → (4 * c + w ∈ dsts c0 ws ↔ ek c w ∈ eks c0 ws)
  | [], _, _, _, _, _, _, _ => by
    constructor
    · intro h; cases h
    · intro h; cases h
  | v :: ws, c0, h, c, w, hc, hw, hs => by
    obtain ⟨h1, h2, h3, h4⟩ := h
    have ih := dsts_mem ws (sx c0 v) h4 c w hc hw hs
    obtain ⟨s1, s2, s3, s4, s5, s6⟩ := st1 c0 h2 v h1 h3
    rw [dsts, eks, List.mem_cons, List.mem_cons, List.mem_cons, ih]
    constructor
    · rintro (q | q | q)
      · have a1 : c = c0 := by omega
        have a2 : w = v := by omega
        exact Or.inl (by rw [a1, a2])
      · have a1 : c = sx c0 v := by omega
        have a2 : w = (v + 2) % 4 := by omega
        exact Or.inl (by rw [a1, a2, s5])
      · exact Or.inr q
    · rintro (q | q)
      · rcases st3 hw h1 hs h3 q with ⟨a1, a2⟩ | ⟨a1, a2⟩
        · subst a1
          have := sxi c hc w hw v h1 hs h3 a2
          exact Or.inl (by rw [this])
        · have hs' := hs
          rw [a1] at hs' a2
          have := sxi (sx c0 v) s1 w hw ((v + 2) % 4) (by omega) hs' s6 (a2.trans s4.symm)
          exact Or.inr (Or.inl (by rw [a1, this]))
      · exact Or.inr (Or.inr q)
set_option maxRecDepth 100000 in
set_option maxHeartbeats 400000 in
theorem bE_0 (b : Nat) : bE (fun _ => false) b = false := by unfold bE; simp
set_option maxRecDepth 100000 in
set_option maxHeartbeats 400000 in
theorem bS_0 (b : Nat) : bS (fun _ => false) b = false := by unfold bS; simp
set_option maxRecDepth 100000 in
set_option maxHeartbeats 400000 in
theorem ins_nil (c : Nat) : ins c [] = fun _ => false := by funext b; rfl
/-- whether a step runs along his ring -/
noncomputable def alng (g : Nat → Int32) (m c w : Nat) : Bool := if w % 2 = 1 then bE (ins (qP g m) (qY g m)) (if w = 1 then c else c - 1) else bS (ins (qP g m) (qY g m)) (if w = 2 then c else c - 8)
set_option maxRecDepth 100000 in
set_option maxHeartbeats 400000 in
theorem ring_m {g : Nat → Int32} (Hw : wfG g) {m : Nat} (hm : m < qM g) : qY g m = [] ∨ isRing g (qP g m) (qY g m) := by
  rcases Hw.rng hm with e | ⟨-, -, -, -, e⟩
  · exact Or.inl (qY_no e)
  · exact Or.inr e
set_option maxRecDepth 100000 in
set_option maxHeartbeats 400000 in
theorem ek_half (c w : Nat) (hw : w < 4) : (w % 2 = 1 → ek c w = 2 * (if w = 1 then c else c - 1) + 1) ∧ (¬ w % 2 = 1 → ek c w = 2 * (if w = 2 then c else c - 8)) := by
  unfold ek
  rcases (show w = 0 ∨ w = 1 ∨ w = 2 ∨ w = 3 by omega) with rfl | rfl | rfl | rfl <;> simp
set_option maxRecDepth 100000 in
set_option maxHeartbeats 400000 in
theorem bE_ring {g : Nat → Int32} (Hw : wfG g) {o : Nat} {r : List Nat} (hr : isRing g o r) {b : Nat} (hb : b < 64) : bE (ins o r) b = decide (2 * b + 1 ∈ eks o r) := by
  have hk := ring_wk Hw.w7 Hw.h6 hr
  rw [bE_cl hk hr.2.2.1 hb, xk_nodup _ _ (eks_shut hk hr.2.2.1 hr.2.2.2.1 (by have := hr.2.2.2.2; omega))]
set_option maxRecDepth 100000 in
set_option maxHeartbeats 400000 in
theorem bS_ring {g : Nat → Int32} (Hw : wfG g) {o : Nat} {r : List Nat} (hr : isRing g o r) {b : Nat} (hb : b < 64) : bS (ins o r) b = decide (2 * b ∈ eks o r) := by
  have hk := ring_wk Hw.w7 Hw.h6 hr
  rw [bS_cl hk hr.2.2.1 hb, xk_nodup _ _ (eks_shut hk hr.2.2.1 hr.2.2.2.1 (by have := hr.2.2.2.2; omega))]
set_option maxRecDepth 100000 in
set_option maxHeartbeats 400000 in
theorem alng_iff {g : Nat → Int32} (Hw : wfG g) {m : Nat} (hm : m < qM g) {c w : Nat} (hc : inG g c) (hs : stay g c w) : 4 * c + w ∈ dsts (qP g m) (qY g m) ↔ alng g m c w = true := by
  have c56 := inG56 Hw.w7 Hw.h6 hc
  have s7 := stay7 Hw.w7 Hw.h6 hs
  have hw : w < 4 := by unfold stay at hs; omega
  unfold alng
  rcases ring_m Hw hm with e | e
  · rw [e, ins_nil, bE_0, bS_0]
    constructor
    · intro h; cases h
    · intro h; split at h <;> cases h
  · rw [dsts_mem _ _ (ring_wk Hw.w7 Hw.h6 e) c w c56 hw s7]
    obtain ⟨k1, k2⟩ := ek_half c w hw
    by_cases q : w % 2 = 1
    · rw [if_pos q, bE_ring Hw e (by split <;> omega), k1 q]
      simp
    · rw [if_neg q, bS_ring Hw e (by split <;> omega), k2 q]
      simp
/-- the marks -/
def GDr (h : aH) (g : Nat → Int32) : Prop :=
  (∀ c w, inG g c → stay g c w → h.1 75 (4 * c + w) = if (anyM (qM g) fun m => if w % 2 = 1 then bE (ins (qP g m) (qY g m)) (if w = 1 then c else c - 1) else bS (ins (qP g m) (qY g m)) (if w = 2 then c else c - 8)) = true then nI 1 else nI 0) ∧
  (∀ b, isC g b → h.1 76 (7 * (b / 8) + b % 8) = match own g b with
    | some m => nI m
    | none => nNo) ∧
  (∀ b, isC g b → lb (h.2.1 68 20) (7 * (b / 8) + b % 8) = rgd g b)
set_option maxRecDepth 100000 in
set_option maxHeartbeats 400000 in
theorem oL_none {g : Nat → Int32} {k : Nat} : ∀ {M : Nat}, (∀ m, m < M → rbit g m k = false) → oL g k M = nNo
  | 0, _ => rfl
  | M + 1, h => by rw [oL, h M (by omega), if_neg (by decide), oL_none (fun m hm => h m (by omega))]
set_option maxRecDepth 100000 in
set_option maxHeartbeats 400000 in
theorem oL_some {g : Nat → Int32} {k m : Nat} (h1 : rbit g m k = true) : ∀ {M : Nat}, m < M → (∀ n, n < M → n ≠ m → rbit g n k = false) → oL g k M = nI m
  | M + 1, hm, h => by
    rw [oL]
    by_cases q : M = m
    · subst q; rw [if_pos h1]
    · rw [h M (by omega) q, if_neg (by decide), oL_some h1 (by omega) (fun n hn => h n (by omega))]
set_option maxRecDepth 100000 in
set_option maxHeartbeats 400000 in
theorem rbit_c {g : Nat → Int32} (Hw : wfG g) {b : Nat} (hb : isC g b) (m : Nat) : rbit g m (7 * (b / 8) + b % 8) = ins (qP g m) (qY g m) b := by
  have w7 := Hw.w7
  have h6 := Hw.h6
  have b1 := hb.1
  have b2 := hb.2
  have e : ce (7 * (b / 8) + b % 8) = b := by unfold ce; omega
  unfold rbit
  rw [e]
  exact pBa (by omega) hb _
set_option maxRecDepth 100000 in
set_option maxHeartbeats 400000 in
theorem LM_GD {g : Nat → Int32} (Hw : wfG g) {h : aH} (HL : LM g (qM g) h) : GDr h g := by
  have w7 := Hw.w7
  have h6 := Hw.h6
  refine ⟨fun c w hc hs => ?_, fun b hb => ?_, fun b hb => ?_⟩
  · have c56 := inG56 w7 h6 hc
    have hw : w < 4 := by unfold stay at hs; omega
    rw [HL.1 _ (by omega)]
    have e : (∃ n, n < qM g ∧ 4 * c + w ∈ dsts (qP g n) (qY g n)) ↔ (anyM (qM g) fun m => alng g m c w) = true := by
      unfold anyM
      rw [pB_iff]
      constructor
      · rintro ⟨n, hn, q⟩; exact ⟨n, hn, (alng_iff Hw hn hc hs).mp q⟩
      · rintro ⟨n, hn, q⟩; exact ⟨n, hn, (alng_iff Hw hn hc hs).mpr q⟩
    by_cases q : ∃ n, n < qM g ∧ 4 * c + w ∈ dsts (qP g n) (qY g n)
    · rw [if_pos q]; exact (if_pos (e.mp q)).symm
    · rw [if_neg q]; exact (if_neg (fun z => q (e.mpr z))).symm
  · have b1 := hb.1
    have b2 := hb.2
    rw [HL.2.1 _ (by omega)]
    by_cases q : ∃ m, m < qM g ∧ ins (qP g m) (qY g m) b = true
    · obtain ⟨m, hm, hi⟩ := q
      rw [oL_some (m := m) (by rw [rbit_c Hw hb]; exact hi) hm (fun n hn hne => by rw [rbit_c Hw hb]; exact Hw.dis hm hn (Ne.symm hne) hi)]
      rw [own_some hm hi (fun j hj => Hw.dis hm (by omega) (by omega) hi)]
    · have q' : ∀ m, m < qM g → ins (qP g m) (qY g m) b = false := fun m hm => by
        cases hi : ins (qP g m) (qY g m) b with
        | false => rfl
        | true => exact absurd ⟨m, hm, hi⟩ q
      rw [oL_none (fun m hm => by rw [rbit_c Hw hb]; exact q' m hm), own_none q']
  · have b1 := hb.1
    have b2 := hb.2
    rw [HL.2.2 _ (by omega)]
    unfold rgd
    congr 1
    funext m
    exact rbit_c Hw hb m
set_option maxRecDepth 100000 in
set_option maxHeartbeats 400000 in
theorem k164 {h : aH} {g : Nat → Int32} (H : HW h g) (L d : Nat) : ∃ h', call (d + 3) 164 [.ref 68] (S0 L) h = some (none, S0 L, h') ∧ FrL h h' ∧ GDr h' g := by
  have f1 : FrL h (uI (uI (sL h 68 20 0) 75 (fun j => if 0 ≤ j ∧ j < 224 then nI 0 else (sL h 68 20 0).1 75 j)) 76 (fun j => if 0 ≤ j ∧ j < 42 then nNo else (uI (sL h 68 20 0) 75 (fun j => if 0 ≤ j ∧ j < 224 then nI 0 else (sL h 68 20 0).1 75 j)).1 76 j)) := ⟨fun c k h1 h2 => by rw [uI_n h2, uI_n h1, sL_1], fun c k h1 => by rw [uI_2, uI_2, sL_n h1], rfl⟩
  obtain ⟨h', a1, a2, a3⟩ := z164m (g := g) d L (qM g) 0 .null .null .null .null .null .null (by omega) _ (H.set (show _ = h.1 72 from funext fun j => f1.1 72 j (by decide) (by decide))) ⟨fun j hj => by
    rw [uI_n (by omega), uI_e, if_pos (by omega), if_neg (fun ⟨n, hn, _⟩ => by omega)], fun k hk => by
    rw [uI_e, if_pos (by omega)]; rfl, fun k hk => by
    rw [uI_2, uI_2, sL_e, lb_0, anyM_0]⟩
  refine ⟨h', ?_, f1.trans a2, LM_GD H.1 a3⟩
  simp (disch := first | assumption | omega) only [c164, u164_0, u164_1, u164_2, u164_5, u164_6, u164_8, u164_11, u164_14, u164_15, u164_18, u164_19, u164_20, u164_21, u164_24, u164_27, u164_28, u164_29, u164_30, u164_32, u164_35, u164_36, u164_39, u164_40, u164_42, u164_43, u164_46, u164_49, u164_50, u164_51, u164_52, u164_53, u164_56, u164_57, u164_58, u164_61, u164_63, u164_65, u164_66, u164_67, u164_68, u164_69, u164_70, u164_73, u164_75, u164_76, u164_77, u164_78, u164_79, u164_80, u164_81, u164_82, u164_85, u164_86, u164_87, u164_90, u164_91, u164_94, u164_95, u164_96, u164_97, u164_100, u164_101, u164_102, u164_103, u164_104, u164_107, u164_108, u164_109, u164_112, u164_114, u164_115, u164_115i, u164_116, u164_119, u164_121, u164_122, u164_125, u164_126, u164_128, u164_130, u164_132, u164_135, u164_136, u164_139, u164_141, u164_143, u164_145, u164_146, u164_147, u164_148, u164_149, u164_150, u164_153, u164_154, u164_157, u164_158, u164_161, u164_163, u164_164, u164_165, u164_168, u164_171, u164_172, u164_174, u164_176, u164_177, u164_180, u164_181, u164_182, u164_185, u164_186, u164_189, u164_190, u164_191, u164_192, u164_194, u164_195, u164_196, u164_198, u164_199, u164_202, u164_203, u164_204, u164_205, u164_207, u164_208, u164_209, u164_210, u164_211, u164_212, u164_214, u164_217, u164_218, u164_219, u164_222, u164_223, u164_224, u164_225, u164_227, u164_228, u164_229, u164_230, u164_231, u164_232, u164_233, u164_234, u164_237, u164_240, u164_243, u164_246, ↓br_eq, ↓reduceIte, gd_true, ls_0, ls_1i, ls_1r, ls_1n, ls_1l, ls_2, ls2_eq, List.set_cons_zero, List.set_cons_succ, rf_s, cs_nil, cs_int, cs_ref, cs_long, Option.bind_some, Option.toList_some, Option.toList_none, List.nil_append, List.cons_append, Nat.reduceAdd, Nat.reduceSub, Nat.reduceMul, Nat.reduceLT, Nat.reduceLeDiff, Nat.reduceEqDiff, Int32.reduceAdd, Int32.reduceSub, Int32.reduceMul, Int32.reduceLT, Int32.reduceLE, Int32.reduceToInt, Int32.reduceToNatClampNeg, Int.reduceLE, Int.reduceLT, Int.reduceSub, Int.reduceToNat, and_self, true_and, and_true, or_true, true_or, false_or, or_false, false_and, and_false, not_false_eq_true, not_true_eq_false, eq_self, ↓li_m1, li_0, li_1, li_2, li_3, li_4, li_5, li_6, li_7, li_8, li_10, li_11, li_12, li_13, li_14, li_16, li_20, li_21, li_22, li_23, li_24, li_26, li_32, li_40, li_42, li_46, li_48, li_56, li_57, li_59, li_64, li_72, li_97, li_100, li_102, li_106, li_110, li_119, li_122, li_127, li_194, li_224, li_255, li_300, li_320, li_388, li_500, li_832, li_1000, ltT, ltF, leT, leF, eqT, eqF, eqmF, eqmF2, mlt, mle, mlt2, mle2, inT, cl, sbN, adm, mad, nI_add, pk_mul, dvN, rmN, rmN2, ofN, bo1, bo0, xle, xlt, xnl, xnt, xgt, xgt2, xge, xge0, xmo, dmN, kS0, lS0, kS1, lS1, kS2, lS2, kS3, lS3, kS4, lS4, kS5, lS5, kS6, lS6, kS7, lS7, kS8, fS8_0, fS8_1, fS8_2, fS8_3, fS8_4, fS8_5, fS8_6, fS8_7, fS8_8, fS8_9, kS9, lS9, fS9_0, fS9_1, fS9_2, fS9_3, fS9_4, fS9_5, fS9_6, fS9_7, kS10, fS10_0, fS10_1, kS11, fS11_0, kS12, lS12, kS13, fS13_5, fS13_6, fS13_7, fS13_8, fS13_9, kS14, lS14, kS15, lS15, kS16, lS16, kS17, lS17, kS18, lS18, kS19, fS19_5, fS19_6, fS19_7, fS19_8, fS19_9, kS20, lS20, kS21, lS21, kS22, lS22, kS23, lS23, kS24, lS24, kS25, lS25, fS25_0, fS25_1, kS26, kS27, fS27_3, fS27_4, fS27_5, kS28, lS28, kS29, lS29, kS30, lS30, kS31, fS31_3, fS31_4, kS32, lS32, kS33, lS33, kS34, fS34_3, fS34_4, kS35, lS35, kS36, lS36, kS37, kS38, fS38_0, kS39, lS39, kS40, fS40_0, kS41, lS41, kS42, fS42_0, kS43, lS43, kS44, fS44_0, kS45, lS45, kS46, fS46_0, kS47, lS47, kS48, fS48_0, kS49, lS49, kS50, fS50_0, kS51, lS51, kS52, fS52_0, kS53, lS53, kS54, fS54_0, kS55, lS55, kS56, fS56_5, fS56_6, fS56_7, fS56_8, fS56_9, kS57, lS57, kS58, lS58, kS59, lS59, kS60, lS60, kS61, lS61, kS62, fS62_5, fS62_6, fS62_7, fS62_8, fS62_9, kS63, lS63, kS64, lS64, kS65, lS65, kS66, lS66, kS67, lS67, kS68, fS68_2, fS68_3, fS68_4, fS68_5, fS68_6, fS68_8, fS68_18, fS68_19, fS68_21, fS68_22, fS68_23, fS68_24, fS68_25, fS68_26, fS68_27, fS68_28, fS68_30, fS68_32, fS68_33, fS68_34, fS68_35, kS69, lS69, kS70, lS70, kS71, lS71, kS72, lS72, kS73, lS73, kS74, lS74, kS75, lS75, kS76, lS76, kS77, lS77, kS78, lS78, kS79, lS79, kS80, lS80, kS81, lS81, kS82, lS82, kS83, lS83, kS84, lS84, kS85, lS85, kS86, lS86, kS87, lS87, kS88, lS88, kS89, lS89]
  rw [z164a _ _ _ _ _ _ _ _ 224 0 (by omega)]
  simp (disch := first | assumption | omega) only [u164_0, u164_1, u164_2, u164_5, u164_6, u164_8, u164_11, u164_14, u164_15, u164_18, u164_19, u164_20, u164_21, u164_24, u164_27, u164_28, u164_30, u164_32, u164_35, u164_36, u164_39, u164_40, u164_42, u164_43, u164_46, u164_49, u164_50, u164_51, u164_52, u164_53, u164_56, u164_57, u164_58, u164_61, u164_63, u164_65, u164_66, u164_67, u164_68, u164_69, u164_70, u164_73, u164_75, u164_76, u164_77, u164_78, u164_79, u164_80, u164_81, u164_82, u164_85, u164_86, u164_87, u164_90, u164_91, u164_94, u164_95, u164_96, u164_97, u164_100, u164_101, u164_102, u164_103, u164_104, u164_107, u164_108, u164_109, u164_112, u164_114, u164_115, u164_115i, u164_116, u164_119, u164_121, u164_122, u164_125, u164_126, u164_128, u164_130, u164_132, u164_135, u164_136, u164_139, u164_141, u164_143, u164_145, u164_146, u164_147, u164_148, u164_149, u164_150, u164_153, u164_154, u164_157, u164_158, u164_161, u164_163, u164_164, u164_165, u164_168, u164_171, u164_172, u164_174, u164_176, u164_177, u164_180, u164_181, u164_182, u164_185, u164_186, u164_189, u164_190, u164_191, u164_192, u164_194, u164_195, u164_196, u164_198, u164_199, u164_202, u164_203, u164_204, u164_205, u164_207, u164_208, u164_209, u164_210, u164_211, u164_212, u164_214, u164_217, u164_218, u164_219, u164_222, u164_223, u164_224, u164_225, u164_227, u164_228, u164_229, u164_230, u164_231, u164_232, u164_233, u164_234, u164_237, u164_240, u164_243, u164_246, ↓br_eq, ↓reduceIte, gd_true, ls_0, ls_1i, ls_1r, ls_1n, ls_1l, ls_2, ls2_eq, List.set_cons_zero, List.set_cons_succ, rf_s, cs_nil, cs_int, cs_ref, cs_long, Option.bind_some, Option.toList_some, Option.toList_none, List.nil_append, List.cons_append, Nat.reduceAdd, Nat.reduceSub, Nat.reduceMul, Nat.reduceLT, Nat.reduceLeDiff, Nat.reduceEqDiff, Int32.reduceAdd, Int32.reduceSub, Int32.reduceMul, Int32.reduceLT, Int32.reduceLE, Int32.reduceToInt, Int32.reduceToNatClampNeg, Int.reduceLE, Int.reduceLT, Int.reduceSub, Int.reduceToNat, and_self, true_and, and_true, or_true, true_or, false_or, or_false, false_and, and_false, not_false_eq_true, not_true_eq_false, eq_self, ↓li_m1, li_0, li_1, li_2, li_3, li_4, li_5, li_6, li_7, li_8, li_10, li_11, li_12, li_13, li_14, li_16, li_20, li_21, li_22, li_23, li_24, li_26, li_32, li_40, li_42, li_46, li_48, li_56, li_57, li_59, li_64, li_72, li_97, li_100, li_102, li_106, li_110, li_119, li_122, li_127, li_194, li_224, li_255, li_300, li_320, li_388, li_500, li_832, li_1000, ltT, ltF, leT, leF, eqT, eqF, eqmF, eqmF2, mlt, mle, mlt2, mle2, inT, cl, sbN, adm, mad, nI_add, pk_mul, dvN, rmN, rmN2, ofN, bo1, bo0, xle, xlt, xnl, xnt, xgt, xgt2, xge, xge0, xmo, dmN, kS0, lS0, kS1, lS1, kS2, lS2, kS3, lS3, kS4, lS4, kS5, lS5, kS6, lS6, kS7, lS7, kS8, fS8_0, fS8_1, fS8_2, fS8_3, fS8_4, fS8_5, fS8_6, fS8_7, fS8_8, fS8_9, kS9, lS9, fS9_0, fS9_1, fS9_2, fS9_3, fS9_4, fS9_5, fS9_6, fS9_7, kS10, fS10_0, fS10_1, kS11, fS11_0, kS12, lS12, kS13, fS13_5, fS13_6, fS13_7, fS13_8, fS13_9, kS14, lS14, kS15, lS15, kS16, lS16, kS17, lS17, kS18, lS18, kS19, fS19_5, fS19_6, fS19_7, fS19_8, fS19_9, kS20, lS20, kS21, lS21, kS22, lS22, kS23, lS23, kS24, lS24, kS25, lS25, fS25_0, fS25_1, kS26, kS27, fS27_3, fS27_4, fS27_5, kS28, lS28, kS29, lS29, kS30, lS30, kS31, fS31_3, fS31_4, kS32, lS32, kS33, lS33, kS34, fS34_3, fS34_4, kS35, lS35, kS36, lS36, kS37, kS38, fS38_0, kS39, lS39, kS40, fS40_0, kS41, lS41, kS42, fS42_0, kS43, lS43, kS44, fS44_0, kS45, lS45, kS46, fS46_0, kS47, lS47, kS48, fS48_0, kS49, lS49, kS50, fS50_0, kS51, lS51, kS52, fS52_0, kS53, lS53, kS54, fS54_0, kS55, lS55, kS56, fS56_5, fS56_6, fS56_7, fS56_8, fS56_9, kS57, lS57, kS58, lS58, kS59, lS59, kS60, lS60, kS61, lS61, kS62, fS62_5, fS62_6, fS62_7, fS62_8, fS62_9, kS63, lS63, kS64, lS64, kS65, lS65, kS66, lS66, kS67, lS67, kS68, fS68_2, fS68_3, fS68_4, fS68_5, fS68_6, fS68_8, fS68_18, fS68_19, fS68_21, fS68_22, fS68_23, fS68_24, fS68_25, fS68_26, fS68_27, fS68_28, fS68_30, fS68_32, fS68_33, fS68_34, fS68_35, kS69, lS69, kS70, lS70, kS71, lS71, kS72, lS72, kS73, lS73, kS74, lS74, kS75, lS75, kS76, lS76, kS77, lS77, kS78, lS78, kS79, lS79, kS80, lS80, kS81, lS81, kS82, lS82, kS83, lS83, kS84, lS84, kS85, lS85, kS86, lS86, kS87, lS87, kS88, lS88, kS89, lS89]
  rw [z164b _ _ _ _ _ _ _ _ 42 0 (by omega)]
  simp (disch := first | assumption | omega) only [u164_0, u164_1, u164_2, u164_5, u164_6, u164_8, u164_11, u164_14, u164_15, u164_18, u164_19, u164_20, u164_21, u164_24, u164_27, u164_28, u164_30, u164_32, u164_35, u164_36, u164_39, u164_40, u164_42, u164_43, u164_46, u164_49, u164_50, u164_52, u164_53, u164_56, u164_57, u164_58, u164_61, u164_63, u164_65, u164_66, u164_67, u164_68, u164_69, u164_70, u164_73, u164_75, u164_76, u164_77, u164_78, u164_79, u164_80, u164_81, u164_82, u164_85, u164_86, u164_87, u164_90, u164_91, u164_94, u164_95, u164_96, u164_97, u164_100, u164_101, u164_102, u164_103, u164_104, u164_107, u164_108, u164_109, u164_112, u164_114, u164_115, u164_115i, u164_116, u164_119, u164_121, u164_122, u164_125, u164_126, u164_128, u164_130, u164_132, u164_135, u164_136, u164_139, u164_141, u164_143, u164_145, u164_146, u164_147, u164_148, u164_149, u164_150, u164_153, u164_154, u164_157, u164_158, u164_161, u164_163, u164_164, u164_165, u164_168, u164_171, u164_172, u164_174, u164_176, u164_177, u164_180, u164_181, u164_182, u164_185, u164_186, u164_189, u164_190, u164_191, u164_192, u164_194, u164_195, u164_196, u164_198, u164_199, u164_202, u164_203, u164_204, u164_205, u164_207, u164_208, u164_209, u164_210, u164_211, u164_212, u164_214, u164_217, u164_218, u164_219, u164_222, u164_223, u164_224, u164_225, u164_227, u164_228, u164_229, u164_230, u164_231, u164_232, u164_233, u164_234, u164_237, u164_240, u164_243, u164_246, ↓br_eq, ↓reduceIte, gd_true, ls_0, ls_1i, ls_1r, ls_1n, ls_1l, ls_2, ls2_eq, List.set_cons_zero, List.set_cons_succ, rf_s, cs_nil, cs_int, cs_ref, cs_long, Option.bind_some, Option.toList_some, Option.toList_none, List.nil_append, List.cons_append, Nat.reduceAdd, Nat.reduceSub, Nat.reduceMul, Nat.reduceLT, Nat.reduceLeDiff, Nat.reduceEqDiff, Int32.reduceAdd, Int32.reduceSub, Int32.reduceMul, Int32.reduceLT, Int32.reduceLE, Int32.reduceToInt, Int32.reduceToNatClampNeg, Int.reduceLE, Int.reduceLT, Int.reduceSub, Int.reduceToNat, and_self, true_and, and_true, or_true, true_or, false_or, or_false, false_and, and_false, not_false_eq_true, not_true_eq_false, eq_self, ↓li_m1, li_0, li_1, li_2, li_3, li_4, li_5, li_6, li_7, li_8, li_10, li_11, li_12, li_13, li_14, li_16, li_20, li_21, li_22, li_23, li_24, li_26, li_32, li_40, li_42, li_46, li_48, li_56, li_57, li_59, li_64, li_72, li_97, li_100, li_102, li_106, li_110, li_119, li_122, li_127, li_194, li_224, li_255, li_300, li_320, li_388, li_500, li_832, li_1000, ltT, ltF, leT, leF, eqT, eqF, eqmF, eqmF2, mlt, mle, mlt2, mle2, inT, cl, sbN, adm, mad, nI_add, pk_mul, dvN, rmN, rmN2, ofN, bo1, bo0, xle, xlt, xnl, xnt, xgt, xgt2, xge, xge0, xmo, dmN, kS0, lS0, kS1, lS1, kS2, lS2, kS3, lS3, kS4, lS4, kS5, lS5, kS6, lS6, kS7, lS7, kS8, fS8_0, fS8_1, fS8_2, fS8_3, fS8_4, fS8_5, fS8_6, fS8_7, fS8_8, fS8_9, kS9, lS9, fS9_0, fS9_1, fS9_2, fS9_3, fS9_4, fS9_5, fS9_6, fS9_7, kS10, fS10_0, fS10_1, kS11, fS11_0, kS12, lS12, kS13, fS13_5, fS13_6, fS13_7, fS13_8, fS13_9, kS14, lS14, kS15, lS15, kS16, lS16, kS17, lS17, kS18, lS18, kS19, fS19_5, fS19_6, fS19_7, fS19_8, fS19_9, kS20, lS20, kS21, lS21, kS22, lS22, kS23, lS23, kS24, lS24, kS25, lS25, fS25_0, fS25_1, kS26, kS27, fS27_3, fS27_4, fS27_5, kS28, lS28, kS29, lS29, kS30, lS30, kS31, fS31_3, fS31_4, kS32, lS32, kS33, lS33, kS34, fS34_3, fS34_4, kS35, lS35, kS36, lS36, kS37, kS38, fS38_0, kS39, lS39, kS40, fS40_0, kS41, lS41, kS42, fS42_0, kS43, lS43, kS44, fS44_0, kS45, lS45, kS46, fS46_0, kS47, lS47, kS48, fS48_0, kS49, lS49, kS50, fS50_0, kS51, lS51, kS52, fS52_0, kS53, lS53, kS54, fS54_0, kS55, lS55, kS56, fS56_5, fS56_6, fS56_7, fS56_8, fS56_9, kS57, lS57, kS58, lS58, kS59, lS59, kS60, lS60, kS61, lS61, kS62, fS62_5, fS62_6, fS62_7, fS62_8, fS62_9, kS63, lS63, kS64, lS64, kS65, lS65, kS66, lS66, kS67, lS67, kS68, fS68_2, fS68_3, fS68_4, fS68_5, fS68_6, fS68_8, fS68_18, fS68_19, fS68_21, fS68_22, fS68_23, fS68_24, fS68_25, fS68_26, fS68_27, fS68_28, fS68_30, fS68_32, fS68_33, fS68_34, fS68_35, kS69, lS69, kS70, lS70, kS71, lS71, kS72, lS72, kS73, lS73, kS74, lS74, kS75, lS75, kS76, lS76, kS77, lS77, kS78, lS78, kS79, lS79, kS80, lS80, kS81, lS81, kS82, lS82, kS83, lS83, kS84, lS84, kS85, lS85, kS86, lS86, kS87, lS87, kS88, lS88, kS89, lS89]
  exact a1
