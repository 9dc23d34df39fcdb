/-! the law's cases -/
theorem sc_in {a L j : Nat} (hb : a + 6 ≤ L) (hL : L ≤ 3072) (hj : j < 6) : inB (nI a + nI j) L := by
  rw [nI_add]
  exact inB_iff.mpr (vp_in_nI (by omega) (by omega))
theorem sc_at {a L j : Nat} (hb : a + 6 ≤ L) (hL : L ≤ 3072) (hj : j < 6) : (nI a + nI j).toNatClampNeg = a + j := by
  rw [nI_add]
  exact nI_clamp (by omega)
def lawStp (L xm mm : Nat) (I : aH → Prop) (as : List Value) : Prop := ∀ h, I h → ∃ r h1 h2, call 999 xm (.ref 8 :: as) (S0 L) h = some (some (.int r), S0 L, h1) ∧ call 999 mm (.ref 68 :: as) (S0 L) h1 = some (some (.int r), S0 L, h2) ∧ I h2 ∧ h1.1 0 = h.1 0 ∧ h2.1 0 = h.1 0
set_option maxHeartbeats 4000000 in
set_option maxRecDepth 100000 in
theorem law_c0 {L a : Nat} (hb : a + 6 ≤ L) (hL : L ≤ 3072) (I : aH → Prop) (hst : ∀ f : Nat → Int32, lawStp L 82 134 I [.int (f 1), .int (f 2), .int (f 3)]) (h : aH) (hI : I h) : ∃ h2, I h2 ∧ h2.1 0 = h.1 0 ∧ ev 1000 218 156 [.ref 0, .ref 8, .ref 68, .int (nI a)] [] (S0 L) h = ev 1000 218 1047 [.ref 0, .ref 8, .ref 68, .int (nI a)] [] (S0 L) h2 := by
  obtain ⟨r, h1, h2, e1, e2, hI2, s1, s2⟩ := hst (fun j => h.1 0 (a + j)) h hI
  refine ⟨h2, hI2, s2, ?_⟩
  have b1 := sc_in (j := 1) hb hL (by decide)
  have t1 := sc_at (j := 1) hb hL (by decide)
  rw [show nI 1 = (1 : Int32) from rfl] at b1 t1
  have b2 := sc_in (j := 2) hb hL (by decide)
  have t2 := sc_at (j := 2) hb hL (by decide)
  rw [show nI 2 = (2 : Int32) from rfl] at b2 t2
  have b3 := sc_in (j := 3) hb hL (by decide)
  have t3 := sc_at (j := 3) hb hL (by decide)
  rw [show nI 3 = (3 : Int32) from rfl] at b3 t3
  simp only [u218_156, u218_157, u218_158, u218_159, u218_160, u218_161, u218_162, u218_163, u218_164, u218_165, u218_166, u218_167, u218_168, u218_169, u218_170, u218_171, u218_172, u218_175, u218_176, u218_177, u218_178, u218_179, u218_180, u218_181, u218_182, u218_183, u218_184, u218_185, u218_186, u218_187, u218_188, u218_189, u218_190, u218_191, u218_194, u218_197, u218_198, gd_true, br_true, br_false, ls_0, ls_1i, ls_1r, ls_1n, ls_1l, ls_2, ls2_eq, List.set_cons_zero, List.set_cons_succ, rf_s, cs_nil, cs_int, cs_ref, cs_long, Option.bind_some, Option.toList_some, Option.toList_none, List.nil_append, List.cons_append, Nat.reduceAdd, Nat.reduceSub, Nat.reduceMul, Nat.reduceLT, Nat.reduceLeDiff, Nat.reduceEqDiff, Int32.reduceAdd, Int32.reduceSub, Int32.reduceMul, Int32.reduceLT, Int32.reduceLE, Int32.reduceToInt, Int32.reduceToNatClampNeg, Int.reduceLE, Int.reduceLT, Int.reduceSub, Int.reduceToNat, and_self, true_and, and_true, or_true, true_or, false_or, or_false, false_and, and_false, not_false_eq_true, not_true_eq_false, eq_self, kS0, lS0, kS8, kS68, b1, t1, b2, t2, b3, t3, e1, e2, s1, or_true, eq_self]
set_option maxHeartbeats 4000000 in
set_option maxRecDepth 100000 in
theorem law_c1 {L a : Nat} (hb : a + 6 ≤ L) (hL : L ≤ 3072) (I : aH → Prop) (hst : ∀ f : Nat → Int32, lawStp L 83 135 I [.int (f 1), .int (f 2), .int (f 3)]) (h : aH) (hI : I h) : ∃ h2, I h2 ∧ h2.1 0 = h.1 0 ∧ ev 1000 218 199 [.ref 0, .ref 8, .ref 68, .int (nI a)] [] (S0 L) h = ev 1000 218 1047 [.ref 0, .ref 8, .ref 68, .int (nI a)] [] (S0 L) h2 := by
  obtain ⟨r, h1, h2, e1, e2, hI2, s1, s2⟩ := hst (fun j => h.1 0 (a + j)) h hI
  refine ⟨h2, hI2, s2, ?_⟩
  have b1 := sc_in (j := 1) hb hL (by decide)
  have t1 := sc_at (j := 1) hb hL (by decide)
  rw [show nI 1 = (1 : Int32) from rfl] at b1 t1
  have b2 := sc_in (j := 2) hb hL (by decide)
  have t2 := sc_at (j := 2) hb hL (by decide)
  rw [show nI 2 = (2 : Int32) from rfl] at b2 t2
  have b3 := sc_in (j := 3) hb hL (by decide)
  have t3 := sc_at (j := 3) hb hL (by decide)
  rw [show nI 3 = (3 : Int32) from rfl] at b3 t3
  simp only [u218_199, u218_200, u218_201, u218_202, u218_203, u218_204, u218_205, u218_206, u218_207, u218_208, u218_209, u218_210, u218_211, u218_212, u218_213, u218_214, u218_215, u218_218, u218_219, u218_220, u218_221, u218_222, u218_223, u218_224, u218_225, u218_226, u218_227, u218_228, u218_229, u218_230, u218_231, u218_232, u218_233, u218_234, u218_237, u218_240, u218_241, gd_true, br_true, br_false, ls_0, ls_1i, ls_1r, ls_1n, ls_1l, ls_2, ls2_eq, List.set_cons_zero, List.set_cons_succ, rf_s, cs_nil, cs_int, cs_ref, cs_long, Option.bind_some, Option.toList_some, Option.toList_none, List.nil_append, List.cons_append, Nat.reduceAdd, Nat.reduceSub, Nat.reduceMul, Nat.reduceLT, Nat.reduceLeDiff, Nat.reduceEqDiff, Int32.reduceAdd, Int32.reduceSub, Int32.reduceMul, Int32.reduceLT, Int32.reduceLE, Int32.reduceToInt, Int32.reduceToNatClampNeg, Int.reduceLE, Int.reduceLT, Int.reduceSub, Int.reduceToNat, and_self, true_and, and_true, or_true, true_or, false_or, or_false, false_and, and_false, not_false_eq_true, not_true_eq_false, eq_self, kS0, lS0, kS8, kS68, b1, t1, b2, t2, b3, t3, e1, e2, s1, or_true, eq_self]
set_option maxHeartbeats 4000000 in
set_option maxRecDepth 100000 in
theorem law_c2 {L a : Nat} (hb : a + 6 ≤ L) (hL : L ≤ 3072) (I : aH → Prop) (hst : ∀ f : Nat → Int32, lawStp L 84 136 I [.int (f 1), .int (f 2), .int (f 3), .int (f 4), .int (f 5)]) (h : aH) (hI : I h) : ∃ h2, I h2 ∧ h2.1 0 = h.1 0 ∧ ev 1000 218 242 [.ref 0, .ref 8, .ref 68, .int (nI a)] [] (S0 L) h = ev 1000 218 1047 [.ref 0, .ref 8, .ref 68, .int (nI a)] [] (S0 L) h2 := by
  obtain ⟨r, h1, h2, e1, e2, hI2, s1, s2⟩ := hst (fun j => h.1 0 (a + j)) h hI
  refine ⟨h2, hI2, s2, ?_⟩
  have b1 := sc_in (j := 1) hb hL (by decide)
  have t1 := sc_at (j := 1) hb hL (by decide)
  rw [show nI 1 = (1 : Int32) from rfl] at b1 t1
  have b2 := sc_in (j := 2) hb hL (by decide)
  have t2 := sc_at (j := 2) hb hL (by decide)
  rw [show nI 2 = (2 : Int32) from rfl] at b2 t2
  have b3 := sc_in (j := 3) hb hL (by decide)
  have t3 := sc_at (j := 3) hb hL (by decide)
  rw [show nI 3 = (3 : Int32) from rfl] at b3 t3
  have b4 := sc_in (j := 4) hb hL (by decide)
  have t4 := sc_at (j := 4) hb hL (by decide)
  rw [show nI 4 = (4 : Int32) from rfl] at b4 t4
  have b5 := sc_in (j := 5) hb hL (by decide)
  have t5 := sc_at (j := 5) hb hL (by decide)
  rw [show nI 5 = (5 : Int32) from rfl] at b5 t5
  simp only [u218_242, u218_243, u218_244, u218_245, u218_246, u218_247, u218_248, u218_249, u218_250, u218_251, u218_252, u218_253, u218_254, u218_255, u218_256, u218_257, u218_258, u218_259, u218_260, u218_261, u218_262, u218_263, u218_264, u218_265, u218_266, u218_267, u218_268, u218_271, u218_272, u218_273, u218_274, u218_275, u218_276, u218_277, u218_278, u218_279, u218_280, u218_281, u218_282, u218_283, u218_284, u218_285, u218_286, u218_287, u218_288, u218_289, u218_290, u218_291, u218_292, u218_293, u218_294, u218_295, u218_296, u218_297, u218_300, u218_303, u218_304, gd_true, br_true, br_false, ls_0, ls_1i, ls_1r, ls_1n, ls_1l, ls_2, ls2_eq, List.set_cons_zero, List.set_cons_succ, rf_s, cs_nil, cs_int, cs_ref, cs_long, Option.bind_some, Option.toList_some, Option.toList_none, List.nil_append, List.cons_append, Nat.reduceAdd, Nat.reduceSub, Nat.reduceMul, Nat.reduceLT, Nat.reduceLeDiff, Nat.reduceEqDiff, Int32.reduceAdd, Int32.reduceSub, Int32.reduceMul, Int32.reduceLT, Int32.reduceLE, Int32.reduceToInt, Int32.reduceToNatClampNeg, Int.reduceLE, Int.reduceLT, Int.reduceSub, Int.reduceToNat, and_self, true_and, and_true, or_true, true_or, false_or, or_false, false_and, and_false, not_false_eq_true, not_true_eq_false, eq_self, kS0, lS0, kS8, kS68, b1, t1, b2, t2, b3, t3, b4, t4, b5, t5, e1, e2, s1, or_true, eq_self]
set_option maxHeartbeats 4000000 in
set_option maxRecDepth 100000 in
theorem law_c3 {L a : Nat} (hb : a + 6 ≤ L) (hL : L ≤ 3072) (I : aH → Prop) (hst : ∀ f : Nat → Int32, lawStp L 85 137 I [.int (f 1)]) (h : aH) (hI : I h) : ∃ h2, I h2 ∧ h2.1 0 = h.1 0 ∧ ev 1000 218 305 [.ref 0, .ref 8, .ref 68, .int (nI a)] [] (S0 L) h = ev 1000 218 1047 [.ref 0, .ref 8, .ref 68, .int (nI a)] [] (S0 L) h2 := by
  obtain ⟨r, h1, h2, e1, e2, hI2, s1, s2⟩ := hst (fun j => h.1 0 (a + j)) h hI
  refine ⟨h2, hI2, s2, ?_⟩
  have b1 := sc_in (j := 1) hb hL (by decide)
  have t1 := sc_at (j := 1) hb hL (by decide)
  rw [show nI 1 = (1 : Int32) from rfl] at b1 t1
  simp only [u218_305, u218_306, u218_307, u218_308, u218_309, u218_310, u218_311, u218_314, u218_315, u218_316, u218_317, u218_318, u218_319, u218_320, u218_323, u218_326, u218_327, gd_true, br_true, br_false, ls_0, ls_1i, ls_1r, ls_1n, ls_1l, ls_2, ls2_eq, List.set_cons_zero, List.set_cons_succ, rf_s, cs_nil, cs_int, cs_ref, cs_long, Option.bind_some, Option.toList_some, Option.toList_none, List.nil_append, List.cons_append, Nat.reduceAdd, Nat.reduceSub, Nat.reduceMul, Nat.reduceLT, Nat.reduceLeDiff, Nat.reduceEqDiff, Int32.reduceAdd, Int32.reduceSub, Int32.reduceMul, Int32.reduceLT, Int32.reduceLE, Int32.reduceToInt, Int32.reduceToNatClampNeg, Int.reduceLE, Int.reduceLT, Int.reduceSub, Int.reduceToNat, and_self, true_and, and_true, or_true, true_or, false_or, or_false, false_and, and_false, not_false_eq_true, not_true_eq_false, eq_self, kS0, lS0, kS8, kS68, b1, t1, e1, e2, s1, or_true, eq_self]
set_option maxHeartbeats 4000000 in
set_option maxRecDepth 100000 in
theorem law_c4 {L a : Nat} (hb : a + 6 ≤ L) (hL : L ≤ 3072) (I : aH → Prop) (hst : ∀ f : Nat → Int32, lawStp L 86 138 I [.long ((f 1).toInt64 <<< ((32 : Int32).toInt64 &&& 63) ||| (f 2).toInt64 &&& 4294967295), .int (f 3)]) (h : aH) (hI : I h) : ∃ h2, I h2 ∧ h2.1 0 = h.1 0 ∧ ev 1000 218 328 [.ref 0, .ref 8, .ref 68, .int (nI a)] [] (S0 L) h = ev 1000 218 1047 [.ref 0, .ref 8, .ref 68, .int (nI a)] [] (S0 L) h2 := by
  obtain ⟨r, h1, h2, e1, e2, hI2, s1, s2⟩ := hst (fun j => h.1 0 (a + j)) h hI
  refine ⟨h2, hI2, s2, ?_⟩
  have b1 := sc_in (j := 1) hb hL (by decide)
  have t1 := sc_at (j := 1) hb hL (by decide)
  rw [show nI 1 = (1 : Int32) from rfl] at b1 t1
  have b2 := sc_in (j := 2) hb hL (by decide)
  have t2 := sc_at (j := 2) hb hL (by decide)
  rw [show nI 2 = (2 : Int32) from rfl] at b2 t2
  have b3 := sc_in (j := 3) hb hL (by decide)
  have t3 := sc_at (j := 3) hb hL (by decide)
  rw [show nI 3 = (3 : Int32) from rfl] at b3 t3
  simp only [u218_328, u218_329, u218_330, u218_331, u218_332, u218_333, u218_334, u218_335, u218_337, u218_338, u218_339, u218_340, u218_341, u218_342, u218_343, u218_344, u218_347, u218_348, u218_349, u218_350, u218_351, u218_352, u218_353, u218_354, u218_357, u218_358, u218_359, u218_360, u218_361, u218_362, u218_363, u218_364, u218_366, u218_367, u218_368, u218_369, u218_370, u218_371, u218_372, u218_373, u218_376, u218_377, u218_378, u218_379, u218_380, u218_381, u218_382, u218_383, u218_386, u218_389, u218_390, gd_true, br_true, br_false, ls_0, ls_1i, ls_1r, ls_1n, ls_1l, ls_2, ls2_eq, List.set_cons_zero, List.set_cons_succ, rf_s, cs_nil, cs_int, cs_ref, cs_long, Option.bind_some, Option.toList_some, Option.toList_none, List.nil_append, List.cons_append, Nat.reduceAdd, Nat.reduceSub, Nat.reduceMul, Nat.reduceLT, Nat.reduceLeDiff, Nat.reduceEqDiff, Int32.reduceAdd, Int32.reduceSub, Int32.reduceMul, Int32.reduceLT, Int32.reduceLE, Int32.reduceToInt, Int32.reduceToNatClampNeg, Int.reduceLE, Int.reduceLT, Int.reduceSub, Int.reduceToNat, and_self, true_and, and_true, or_true, true_or, false_or, or_false, false_and, and_false, not_false_eq_true, not_true_eq_false, eq_self, kS0, lS0, kS8, kS68, b1, t1, b2, t2, b3, t3, e1, e2, s1, or_true, eq_self]
set_option maxHeartbeats 4000000 in
set_option maxRecDepth 100000 in
theorem law_c5 {L a : Nat} (hb : a + 6 ≤ L) (hL : L ≤ 3072) (I : aH → Prop) (hst : ∀ f : Nat → Int32, lawStp L 87 156 I []) (h : aH) (hI : I h) : ∃ h2, I h2 ∧ h2.1 0 = h.1 0 ∧ ev 1000 218 391 [.ref 0, .ref 8, .ref 68, .int (nI a)] [] (S0 L) h = ev 1000 218 1047 [.ref 0, .ref 8, .ref 68, .int (nI a)] [] (S0 L) h2 := by
  obtain ⟨r, h1, h2, e1, e2, hI2, s1, s2⟩ := hst (fun j => h.1 0 (a + j)) h hI
  refine ⟨h2, hI2, s2, ?_⟩
  simp only [u218_391, u218_392, u218_395, u218_396, u218_399, u218_402, u218_403, gd_true, br_true, br_false, ls_0, ls_1i, ls_1r, ls_1n, ls_1l, ls_2, ls2_eq, List.set_cons_zero, List.set_cons_succ, rf_s, cs_nil, cs_int, cs_ref, cs_long, Option.bind_some, Option.toList_some, Option.toList_none, List.nil_append, List.cons_append, Nat.reduceAdd, Nat.reduceSub, Nat.reduceMul, Nat.reduceLT, Nat.reduceLeDiff, Nat.reduceEqDiff, Int32.reduceAdd, Int32.reduceSub, Int32.reduceMul, Int32.reduceLT, Int32.reduceLE, Int32.reduceToInt, Int32.reduceToNatClampNeg, Int.reduceLE, Int.reduceLT, Int.reduceSub, Int.reduceToNat, and_self, true_and, and_true, or_true, true_or, false_or, or_false, false_and, and_false, not_false_eq_true, not_true_eq_false, eq_self, kS0, lS0, kS8, kS68, e1, e2, s1, or_true, eq_self]
set_option maxHeartbeats 4000000 in
set_option maxRecDepth 100000 in
theorem law_c6 {L a : Nat} (hb : a + 6 ≤ L) (hL : L ≤ 3072) (I : aH → Prop) (hst : ∀ f : Nat → Int32, lawStp L 88 157 I []) (h : aH) (hI : I h) : ∃ h2, I h2 ∧ h2.1 0 = h.1 0 ∧ ev 1000 218 404 [.ref 0, .ref 8, .ref 68, .int (nI a)] [] (S0 L) h = ev 1000 218 1047 [.ref 0, .ref 8, .ref 68, .int (nI a)] [] (S0 L) h2 := by
  obtain ⟨r, h1, h2, e1, e2, hI2, s1, s2⟩ := hst (fun j => h.1 0 (a + j)) h hI
  refine ⟨h2, hI2, s2, ?_⟩
  simp only [u218_404, u218_405, u218_408, u218_409, u218_412, u218_415, u218_416, gd_true, br_true, br_false, ls_0, ls_1i, ls_1r, ls_1n, ls_1l, ls_2, ls2_eq, List.set_cons_zero, List.set_cons_succ, rf_s, cs_nil, cs_int, cs_ref, cs_long, Option.bind_some, Option.toList_some, Option.toList_none, List.nil_append, List.cons_append, Nat.reduceAdd, Nat.reduceSub, Nat.reduceMul, Nat.reduceLT, Nat.reduceLeDiff, Nat.reduceEqDiff, Int32.reduceAdd, Int32.reduceSub, Int32.reduceMul, Int32.reduceLT, Int32.reduceLE, Int32.reduceToInt, Int32.reduceToNatClampNeg, Int.reduceLE, Int.reduceLT, Int.reduceSub, Int.reduceToNat, and_self, true_and, and_true, or_true, true_or, false_or, or_false, false_and, and_false, not_false_eq_true, not_true_eq_false, eq_self, kS0, lS0, kS8, kS68, e1, e2, s1, or_true, eq_self]
set_option maxHeartbeats 4000000 in
set_option maxRecDepth 100000 in
theorem law_c7 {L a : Nat} (hb : a + 6 ≤ L) (hL : L ≤ 3072) (I : aH → Prop) (hst : ∀ f : Nat → Int32, lawStp L 89 168 I [.int (f 1), .int (f 2)]) (h : aH) (hI : I h) : ∃ h2, I h2 ∧ h2.1 0 = h.1 0 ∧ ev 1000 218 417 [.ref 0, .ref 8, .ref 68, .int (nI a)] [] (S0 L) h = ev 1000 218 1047 [.ref 0, .ref 8, .ref 68, .int (nI a)] [] (S0 L) h2 := by
  obtain ⟨r, h1, h2, e1, e2, hI2, s1, s2⟩ := hst (fun j => h.1 0 (a + j)) h hI
  refine ⟨h2, hI2, s2, ?_⟩
  have b1 := sc_in (j := 1) hb hL (by decide)
  have t1 := sc_at (j := 1) hb hL (by decide)
  rw [show nI 1 = (1 : Int32) from rfl] at b1 t1
  have b2 := sc_in (j := 2) hb hL (by decide)
  have t2 := sc_at (j := 2) hb hL (by decide)
  rw [show nI 2 = (2 : Int32) from rfl] at b2 t2
  simp only [u218_417, u218_418, u218_419, u218_420, u218_421, u218_422, u218_423, u218_424, u218_425, u218_426, u218_427, u218_428, u218_431, u218_432, u218_433, u218_434, u218_435, u218_436, u218_437, u218_438, u218_439, u218_440, u218_441, u218_442, u218_445, u218_448, u218_449, gd_true, br_true, br_false, ls_0, ls_1i, ls_1r, ls_1n, ls_1l, ls_2, ls2_eq, List.set_cons_zero, List.set_cons_succ, rf_s, cs_nil, cs_int, cs_ref, cs_long, Option.bind_some, Option.toList_some, Option.toList_none, List.nil_append, List.cons_append, Nat.reduceAdd, Nat.reduceSub, Nat.reduceMul, Nat.reduceLT, Nat.reduceLeDiff, Nat.reduceEqDiff, Int32.reduceAdd, Int32.reduceSub, Int32.reduceMul, Int32.reduceLT, Int32.reduceLE, Int32.reduceToInt, Int32.reduceToNatClampNeg, Int.reduceLE, Int.reduceLT, Int.reduceSub, Int.reduceToNat, and_self, true_and, and_true, or_true, true_or, false_or, or_false, false_and, and_false, not_false_eq_true, not_true_eq_false, eq_self, kS0, lS0, kS8, kS68, b1, t1, b2, t2, e1, e2, s1, or_true, eq_self]
set_option maxHeartbeats 4000000 in
set_option maxRecDepth 100000 in
theorem law_c8 {L a : Nat} (hb : a + 6 ≤ L) (hL : L ≤ 3072) (I : aH → Prop) (hst : ∀ f : Nat → Int32, lawStp L 90 174 I [.int (f 1), .int (f 2), .int (f 3), .int (f 4)]) (h : aH) (hI : I h) : ∃ h2, I h2 ∧ h2.1 0 = h.1 0 ∧ ev 1000 218 450 [.ref 0, .ref 8, .ref 68, .int (nI a)] [] (S0 L) h = ev 1000 218 1047 [.ref 0, .ref 8, .ref 68, .int (nI a)] [] (S0 L) h2 := by
  obtain ⟨r, h1, h2, e1, e2, hI2, s1, s2⟩ := hst (fun j => h.1 0 (a + j)) h hI
  refine ⟨h2, hI2, s2, ?_⟩
  have b1 := sc_in (j := 1) hb hL (by decide)
  have t1 := sc_at (j := 1) hb hL (by decide)
  rw [show nI 1 = (1 : Int32) from rfl] at b1 t1
  have b2 := sc_in (j := 2) hb hL (by decide)
  have t2 := sc_at (j := 2) hb hL (by decide)
  rw [show nI 2 = (2 : Int32) from rfl] at b2 t2
  have b3 := sc_in (j := 3) hb hL (by decide)
  have t3 := sc_at (j := 3) hb hL (by decide)
  rw [show nI 3 = (3 : Int32) from rfl] at b3 t3
  have b4 := sc_in (j := 4) hb hL (by decide)
  have t4 := sc_at (j := 4) hb hL (by decide)
  rw [show nI 4 = (4 : Int32) from rfl] at b4 t4
  simp only [u218_450, u218_451, u218_452, u218_453, u218_454, u218_455, u218_456, u218_457, u218_458, u218_459, u218_460, u218_461, u218_462, u218_463, u218_464, u218_465, u218_466, u218_467, u218_468, u218_469, u218_470, u218_471, u218_474, u218_475, u218_476, u218_477, u218_478, u218_479, u218_480, u218_481, u218_482, u218_483, u218_484, u218_485, u218_486, u218_487, u218_488, u218_489, u218_490, u218_491, u218_492, u218_493, u218_494, u218_495, u218_498, u218_501, u218_502, gd_true, br_true, br_false, ls_0, ls_1i, ls_1r, ls_1n, ls_1l, ls_2, ls2_eq, List.set_cons_zero, List.set_cons_succ, rf_s, cs_nil, cs_int, cs_ref, cs_long, Option.bind_some, Option.toList_some, Option.toList_none, List.nil_append, List.cons_append, Nat.reduceAdd, Nat.reduceSub, Nat.reduceMul, Nat.reduceLT, Nat.reduceLeDiff, Nat.reduceEqDiff, Int32.reduceAdd, Int32.reduceSub, Int32.reduceMul, Int32.reduceLT, Int32.reduceLE, Int32.reduceToInt, Int32.reduceToNatClampNeg, Int.reduceLE, Int.reduceLT, Int.reduceSub, Int.reduceToNat, and_self, true_and, and_true, or_true, true_or, false_or, or_false, false_and, and_false, not_false_eq_true, not_true_eq_false, eq_self, kS0, lS0, kS8, kS68, b1, t1, b2, t2, b3, t3, b4, t4, e1, e2, s1, or_true, eq_self]
set_option maxHeartbeats 4000000 in
set_option maxRecDepth 100000 in
theorem law_c9 {L a : Nat} (hb : a + 6 ≤ L) (hL : L ≤ 3072) (I : aH → Prop) (hst : ∀ f : Nat → Int32, lawStp L 91 176 I [.int (f 1), .int (f 2), .int (f 3), .int (f 4)]) (h : aH) (hI : I h) : ∃ h2, I h2 ∧ h2.1 0 = h.1 0 ∧ ev 1000 218 503 [.ref 0, .ref 8, .ref 68, .int (nI a)] [] (S0 L) h = ev 1000 218 1047 [.ref 0, .ref 8, .ref 68, .int (nI a)] [] (S0 L) h2 := by
  obtain ⟨r, h1, h2, e1, e2, hI2, s1, s2⟩ := hst (fun j => h.1 0 (a + j)) h hI
  refine ⟨h2, hI2, s2, ?_⟩
  have b1 := sc_in (j := 1) hb hL (by decide)
  have t1 := sc_at (j := 1) hb hL (by decide)
  rw [show nI 1 = (1 : Int32) from rfl] at b1 t1
  have b2 := sc_in (j := 2) hb hL (by decide)
  have t2 := sc_at (j := 2) hb hL (by decide)
  rw [show nI 2 = (2 : Int32) from rfl] at b2 t2
  have b3 := sc_in (j := 3) hb hL (by decide)
  have t3 := sc_at (j := 3) hb hL (by decide)
  rw [show nI 3 = (3 : Int32) from rfl] at b3 t3
  have b4 := sc_in (j := 4) hb hL (by decide)
  have t4 := sc_at (j := 4) hb hL (by decide)
  rw [show nI 4 = (4 : Int32) from rfl] at b4 t4
  simp only [u218_503, u218_504, u218_505, u218_506, u218_507, u218_508, u218_509, u218_510, u218_511, u218_512, u218_513, u218_514, u218_515, u218_516, u218_517, u218_518, u218_519, u218_520, u218_521, u218_522, u218_523, u218_524, u218_527, u218_528, u218_529, u218_530, u218_531, u218_532, u218_533, u218_534, u218_535, u218_536, u218_537, u218_538, u218_539, u218_540, u218_541, u218_542, u218_543, u218_544, u218_545, u218_546, u218_547, u218_548, u218_551, u218_554, u218_555, gd_true, br_true, br_false, ls_0, ls_1i, ls_1r, ls_1n, ls_1l, ls_2, ls2_eq, List.set_cons_zero, List.set_cons_succ, rf_s, cs_nil, cs_int, cs_ref, cs_long, Option.bind_some, Option.toList_some, Option.toList_none, List.nil_append, List.cons_append, Nat.reduceAdd, Nat.reduceSub, Nat.reduceMul, Nat.reduceLT, Nat.reduceLeDiff, Nat.reduceEqDiff, Int32.reduceAdd, Int32.reduceSub, Int32.reduceMul, Int32.reduceLT, Int32.reduceLE, Int32.reduceToInt, Int32.reduceToNatClampNeg, Int.reduceLE, Int.reduceLT, Int.reduceSub, Int.reduceToNat, and_self, true_and, and_true, or_true, true_or, false_or, or_false, false_and, and_false, not_false_eq_true, not_true_eq_false, eq_self, kS0, lS0, kS8, kS68, b1, t1, b2, t2, b3, t3, b4, t4, e1, e2, s1, or_true, eq_self]
set_option maxHeartbeats 4000000 in
set_option maxRecDepth 100000 in
theorem law_c10 {L a : Nat} (hb : a + 6 ≤ L) (hL : L ≤ 3072) (I : aH → Prop) (hst : ∀ f : Nat → Int32, lawStp L 92 178 I [.int (f 1)]) (h : aH) (hI : I h) : ∃ h2, I h2 ∧ h2.1 0 = h.1 0 ∧ ev 1000 218 556 [.ref 0, .ref 8, .ref 68, .int (nI a)] [] (S0 L) h = ev 1000 218 1047 [.ref 0, .ref 8, .ref 68, .int (nI a)] [] (S0 L) h2 := by
  obtain ⟨r, h1, h2, e1, e2, hI2, s1, s2⟩ := hst (fun j => h.1 0 (a + j)) h hI
  refine ⟨h2, hI2, s2, ?_⟩
  have b1 := sc_in (j := 1) hb hL (by decide)
  have t1 := sc_at (j := 1) hb hL (by decide)
  rw [show nI 1 = (1 : Int32) from rfl] at b1 t1
  simp only [u218_556, u218_557, u218_558, u218_559, u218_560, u218_561, u218_562, u218_565, u218_566, u218_567, u218_568, u218_569, u218_570, u218_571, u218_574, u218_577, u218_578, gd_true, br_true, br_false, ls_0, ls_1i, ls_1r, ls_1n, ls_1l, ls_2, ls2_eq, List.set_cons_zero, List.set_cons_succ, rf_s, cs_nil, cs_int, cs_ref, cs_long, Option.bind_some, Option.toList_some, Option.toList_none, List.nil_append, List.cons_append, Nat.reduceAdd, Nat.reduceSub, Nat.reduceMul, Nat.reduceLT, Nat.reduceLeDiff, Nat.reduceEqDiff, Int32.reduceAdd, Int32.reduceSub, Int32.reduceMul, Int32.reduceLT, Int32.reduceLE, Int32.reduceToInt, Int32.reduceToNatClampNeg, Int.reduceLE, Int.reduceLT, Int.reduceSub, Int.reduceToNat, and_self, true_and, and_true, or_true, true_or, false_or, or_false, false_and, and_false, not_false_eq_true, not_true_eq_false, eq_self, kS0, lS0, kS8, kS68, b1, t1, e1, e2, s1, or_true, eq_self]
set_option maxHeartbeats 4000000 in
set_option maxRecDepth 100000 in
theorem law_c11 {L a : Nat} (hb : a + 6 ≤ L) (hL : L ≤ 3072) (I : aH → Prop) (hst : ∀ f : Nat → Int32, lawStp L 93 179 I [.int (f 1), .int (f 2)]) (h : aH) (hI : I h) : ∃ h2, I h2 ∧ h2.1 0 = h.1 0 ∧ ev 1000 218 579 [.ref 0, .ref 8, .ref 68, .int (nI a)] [] (S0 L) h = ev 1000 218 1047 [.ref 0, .ref 8, .ref 68, .int (nI a)] [] (S0 L) h2 := by
  obtain ⟨r, h1, h2, e1, e2, hI2, s1, s2⟩ := hst (fun j => h.1 0 (a + j)) h hI
  refine ⟨h2, hI2, s2, ?_⟩
  have b1 := sc_in (j := 1) hb hL (by decide)
  have t1 := sc_at (j := 1) hb hL (by decide)
  rw [show nI 1 = (1 : Int32) from rfl] at b1 t1
  have b2 := sc_in (j := 2) hb hL (by decide)
  have t2 := sc_at (j := 2) hb hL (by decide)
  rw [show nI 2 = (2 : Int32) from rfl] at b2 t2
  simp only [u218_579, u218_580, u218_581, u218_582, u218_583, u218_584, u218_585, u218_586, u218_587, u218_588, u218_589, u218_590, u218_593, u218_594, u218_595, u218_596, u218_597, u218_598, u218_599, u218_600, u218_601, u218_602, u218_603, u218_604, u218_607, u218_610, u218_611, gd_true, br_true, br_false, ls_0, ls_1i, ls_1r, ls_1n, ls_1l, ls_2, ls2_eq, List.set_cons_zero, List.set_cons_succ, rf_s, cs_nil, cs_int, cs_ref, cs_long, Option.bind_some, Option.toList_some, Option.toList_none, List.nil_append, List.cons_append, Nat.reduceAdd, Nat.reduceSub, Nat.reduceMul, Nat.reduceLT, Nat.reduceLeDiff, Nat.reduceEqDiff, Int32.reduceAdd, Int32.reduceSub, Int32.reduceMul, Int32.reduceLT, Int32.reduceLE, Int32.reduceToInt, Int32.reduceToNatClampNeg, Int.reduceLE, Int.reduceLT, Int.reduceSub, Int.reduceToNat, and_self, true_and, and_true, or_true, true_or, false_or, or_false, false_and, and_false, not_false_eq_true, not_true_eq_false, eq_self, kS0, lS0, kS8, kS68, b1, t1, b2, t2, e1, e2, s1, or_true, eq_self]
set_option maxHeartbeats 4000000 in
set_option maxRecDepth 100000 in
theorem law_c12 {L a : Nat} (hb : a + 6 ≤ L) (hL : L ≤ 3072) (I : aH → Prop) (hst : ∀ f : Nat → Int32, lawStp L 94 180 I [.int (f 1)]) (h : aH) (hI : I h) : ∃ h2, I h2 ∧ h2.1 0 = h.1 0 ∧ ev 1000 218 612 [.ref 0, .ref 8, .ref 68, .int (nI a)] [] (S0 L) h = ev 1000 218 1047 [.ref 0, .ref 8, .ref 68, .int (nI a)] [] (S0 L) h2 := by
  obtain ⟨r, h1, h2, e1, e2, hI2, s1, s2⟩ := hst (fun j => h.1 0 (a + j)) h hI
  refine ⟨h2, hI2, s2, ?_⟩
  have b1 := sc_in (j := 1) hb hL (by decide)
  have t1 := sc_at (j := 1) hb hL (by decide)
  rw [show nI 1 = (1 : Int32) from rfl] at b1 t1
  simp only [u218_612, u218_613, u218_614, u218_615, u218_616, u218_617, u218_618, u218_621, u218_622, u218_623, u218_624, u218_625, u218_626, u218_627, u218_630, u218_633, u218_634, gd_true, br_true, br_false, ls_0, ls_1i, ls_1r, ls_1n, ls_1l, ls_2, ls2_eq, List.set_cons_zero, List.set_cons_succ, rf_s, cs_nil, cs_int, cs_ref, cs_long, Option.bind_some, Option.toList_some, Option.toList_none, List.nil_append, List.cons_append, Nat.reduceAdd, Nat.reduceSub, Nat.reduceMul, Nat.reduceLT, Nat.reduceLeDiff, Nat.reduceEqDiff, Int32.reduceAdd, Int32.reduceSub, Int32.reduceMul, Int32.reduceLT, Int32.reduceLE, Int32.reduceToInt, Int32.reduceToNatClampNeg, Int.reduceLE, Int.reduceLT, Int.reduceSub, Int.reduceToNat, and_self, true_and, and_true, or_true, true_or, false_or, or_false, false_and, and_false, not_false_eq_true, not_true_eq_false, eq_self, kS0, lS0, kS8, kS68, b1, t1, e1, e2, s1, or_true, eq_self]
set_option maxHeartbeats 4000000 in
set_option maxRecDepth 100000 in
theorem law_c13 {L a : Nat} (hb : a + 6 ≤ L) (hL : L ≤ 3072) (I : aH → Prop) (hst : ∀ f : Nat → Int32, lawStp L 95 187 I [.int (f 1), .int (f 2), .int (f 3)]) (h : aH) (hI : I h) : ∃ h2, I h2 ∧ h2.1 0 = h.1 0 ∧ ev 1000 218 635 [.ref 0, .ref 8, .ref 68, .int (nI a)] [] (S0 L) h = ev 1000 218 1047 [.ref 0, .ref 8, .ref 68, .int (nI a)] [] (S0 L) h2 := by
  obtain ⟨r, h1, h2, e1, e2, hI2, s1, s2⟩ := hst (fun j => h.1 0 (a + j)) h hI
  refine ⟨h2, hI2, s2, ?_⟩
  have b1 := sc_in (j := 1) hb hL (by decide)
  have t1 := sc_at (j := 1) hb hL (by decide)
  rw [show nI 1 = (1 : Int32) from rfl] at b1 t1
  have b2 := sc_in (j := 2) hb hL (by decide)
  have t2 := sc_at (j := 2) hb hL (by decide)
  rw [show nI 2 = (2 : Int32) from rfl] at b2 t2
  have b3 := sc_in (j := 3) hb hL (by decide)
  have t3 := sc_at (j := 3) hb hL (by decide)
  rw [show nI 3 = (3 : Int32) from rfl] at b3 t3
  simp only [u218_635, u218_636, u218_637, u218_638, u218_639, u218_640, u218_641, u218_642, u218_643, u218_644, u218_645, u218_646, u218_647, u218_648, u218_649, u218_650, u218_651, u218_654, u218_655, u218_656, u218_657, u218_658, u218_659, u218_660, u218_661, u218_662, u218_663, u218_664, u218_665, u218_666, u218_667, u218_668, u218_669, u218_670, u218_673, u218_676, u218_677, gd_true, br_true, br_false, ls_0, ls_1i, ls_1r, ls_1n, ls_1l, ls_2, ls2_eq, List.set_cons_zero, List.set_cons_succ, rf_s, cs_nil, cs_int, cs_ref, cs_long, Option.bind_some, Option.toList_some, Option.toList_none, List.nil_append, List.cons_append, Nat.reduceAdd, Nat.reduceSub, Nat.reduceMul, Nat.reduceLT, Nat.reduceLeDiff, Nat.reduceEqDiff, Int32.reduceAdd, Int32.reduceSub, Int32.reduceMul, Int32.reduceLT, Int32.reduceLE, Int32.reduceToInt, Int32.reduceToNatClampNeg, Int.reduceLE, Int.reduceLT, Int.reduceSub, Int.reduceToNat, and_self, true_and, and_true, or_true, true_or, false_or, or_false, false_and, and_false, not_false_eq_true, not_true_eq_false, eq_self, kS0, lS0, kS8, kS68, b1, t1, b2, t2, b3, t3, e1, e2, s1, or_true, eq_self]
set_option maxHeartbeats 4000000 in
set_option maxRecDepth 100000 in
theorem law_c14 {L a : Nat} (hb : a + 6 ≤ L) (hL : L ≤ 3072) (I : aH → Prop) (hst : ∀ f : Nat → Int32, lawStp L 96 190 I [.int (f 1)]) (h : aH) (hI : I h) : ∃ h2, I h2 ∧ h2.1 0 = h.1 0 ∧ ev 1000 218 678 [.ref 0, .ref 8, .ref 68, .int (nI a)] [] (S0 L) h = ev 1000 218 1047 [.ref 0, .ref 8, .ref 68, .int (nI a)] [] (S0 L) h2 := by
  obtain ⟨r, h1, h2, e1, e2, hI2, s1, s2⟩ := hst (fun j => h.1 0 (a + j)) h hI
  refine ⟨h2, hI2, s2, ?_⟩
  have b1 := sc_in (j := 1) hb hL (by decide)
  have t1 := sc_at (j := 1) hb hL (by decide)
  rw [show nI 1 = (1 : Int32) from rfl] at b1 t1
  simp only [u218_678, u218_679, u218_680, u218_681, u218_682, u218_683, u218_684, u218_687, u218_688, u218_689, u218_690, u218_691, u218_692, u218_693, u218_696, u218_699, u218_700, gd_true, br_true, br_false, ls_0, ls_1i, ls_1r, ls_1n, ls_1l, ls_2, ls2_eq, List.set_cons_zero, List.set_cons_succ, rf_s, cs_nil, cs_int, cs_ref, cs_long, Option.bind_some, Option.toList_some, Option.toList_none, List.nil_append, List.cons_append, Nat.reduceAdd, Nat.reduceSub, Nat.reduceMul, Nat.reduceLT, Nat.reduceLeDiff, Nat.reduceEqDiff, Int32.reduceAdd, Int32.reduceSub, Int32.reduceMul, Int32.reduceLT, Int32.reduceLE, Int32.reduceToInt, Int32.reduceToNatClampNeg, Int.reduceLE, Int.reduceLT, Int.reduceSub, Int.reduceToNat, and_self, true_and, and_true, or_true, true_or, false_or, or_false, false_and, and_false, not_false_eq_true, not_true_eq_false, eq_self, kS0, lS0, kS8, kS68, b1, t1, e1, e2, s1, or_true, eq_self]
set_option maxHeartbeats 4000000 in
set_option maxRecDepth 100000 in
theorem law_c15 {L a : Nat} (hb : a + 6 ≤ L) (hL : L ≤ 3072) (I : aH → Prop) (hst : ∀ f : Nat → Int32, lawStp L 97 191 I [.int (f 1)]) (h : aH) (hI : I h) : ∃ h2, I h2 ∧ h2.1 0 = h.1 0 ∧ ev 1000 218 701 [.ref 0, .ref 8, .ref 68, .int (nI a)] [] (S0 L) h = ev 1000 218 1047 [.ref 0, .ref 8, .ref 68, .int (nI a)] [] (S0 L) h2 := by
  obtain ⟨r, h1, h2, e1, e2, hI2, s1, s2⟩ := hst (fun j => h.1 0 (a + j)) h hI
  refine ⟨h2, hI2, s2, ?_⟩
  have b1 := sc_in (j := 1) hb hL (by decide)
  have t1 := sc_at (j := 1) hb hL (by decide)
  rw [show nI 1 = (1 : Int32) from rfl] at b1 t1
  simp only [u218_701, u218_702, u218_703, u218_704, u218_705, u218_706, u218_707, u218_710, u218_711, u218_712, u218_713, u218_714, u218_715, u218_716, u218_719, u218_722, u218_723, gd_true, br_true, br_false, ls_0, ls_1i, ls_1r, ls_1n, ls_1l, ls_2, ls2_eq, List.set_cons_zero, List.set_cons_succ, rf_s, cs_nil, cs_int, cs_ref, cs_long, Option.bind_some, Option.toList_some, Option.toList_none, List.nil_append, List.cons_append, Nat.reduceAdd, Nat.reduceSub, Nat.reduceMul, Nat.reduceLT, Nat.reduceLeDiff, Nat.reduceEqDiff, Int32.reduceAdd, Int32.reduceSub, Int32.reduceMul, Int32.reduceLT, Int32.reduceLE, Int32.reduceToInt, Int32.reduceToNatClampNeg, Int.reduceLE, Int.reduceLT, Int.reduceSub, Int.reduceToNat, and_self, true_and, and_true, or_true, true_or, false_or, or_false, false_and, and_false, not_false_eq_true, not_true_eq_false, eq_self, kS0, lS0, kS8, kS68, b1, t1, e1, e2, s1, or_true, eq_self]
set_option maxHeartbeats 4000000 in
set_option maxRecDepth 100000 in
theorem law_c16 {L a : Nat} (hb : a + 6 ≤ L) (hL : L ≤ 3072) (I : aH → Prop) (hst : ∀ f : Nat → Int32, lawStp L 98 192 I [.int (f 1), .int (f 2), .int (f 3)]) (h : aH) (hI : I h) : ∃ h2, I h2 ∧ h2.1 0 = h.1 0 ∧ ev 1000 218 724 [.ref 0, .ref 8, .ref 68, .int (nI a)] [] (S0 L) h = ev 1000 218 1047 [.ref 0, .ref 8, .ref 68, .int (nI a)] [] (S0 L) h2 := by
  obtain ⟨r, h1, h2, e1, e2, hI2, s1, s2⟩ := hst (fun j => h.1 0 (a + j)) h hI
  refine ⟨h2, hI2, s2, ?_⟩
  have b1 := sc_in (j := 1) hb hL (by decide)
  have t1 := sc_at (j := 1) hb hL (by decide)
  rw [show nI 1 = (1 : Int32) from rfl] at b1 t1
  have b2 := sc_in (j := 2) hb hL (by decide)
  have t2 := sc_at (j := 2) hb hL (by decide)
  rw [show nI 2 = (2 : Int32) from rfl] at b2 t2
  have b3 := sc_in (j := 3) hb hL (by decide)
  have t3 := sc_at (j := 3) hb hL (by decide)
  rw [show nI 3 = (3 : Int32) from rfl] at b3 t3
  simp only [u218_724, u218_725, u218_726, u218_727, u218_728, u218_729, u218_730, u218_731, u218_732, u218_733, u218_734, u218_735, u218_736, u218_737, u218_738, u218_739, u218_740, u218_743, u218_744, u218_745, u218_746, u218_747, u218_748, u218_749, u218_750, u218_751, u218_752, u218_753, u218_754, u218_755, u218_756, u218_757, u218_758, u218_759, u218_762, u218_765, u218_766, gd_true, br_true, br_false, ls_0, ls_1i, ls_1r, ls_1n, ls_1l, ls_2, ls2_eq, List.set_cons_zero, List.set_cons_succ, rf_s, cs_nil, cs_int, cs_ref, cs_long, Option.bind_some, Option.toList_some, Option.toList_none, List.nil_append, List.cons_append, Nat.reduceAdd, Nat.reduceSub, Nat.reduceMul, Nat.reduceLT, Nat.reduceLeDiff, Nat.reduceEqDiff, Int32.reduceAdd, Int32.reduceSub, Int32.reduceMul, Int32.reduceLT, Int32.reduceLE, Int32.reduceToInt, Int32.reduceToNatClampNeg, Int.reduceLE, Int.reduceLT, Int.reduceSub, Int.reduceToNat, and_self, true_and, and_true, or_true, true_or, false_or, or_false, false_and, and_false, not_false_eq_true, not_true_eq_false, eq_self, kS0, lS0, kS8, kS68, b1, t1, b2, t2, b3, t3, e1, e2, s1, or_true, eq_self]
set_option maxHeartbeats 4000000 in
set_option maxRecDepth 100000 in
theorem law_c17 {L a : Nat} (hb : a + 6 ≤ L) (hL : L ≤ 3072) (I : aH → Prop) (hst : ∀ f : Nat → Int32, lawStp L 99 193 I [.int (f 1), .int (f 2)]) (h : aH) (hI : I h) : ∃ h2, I h2 ∧ h2.1 0 = h.1 0 ∧ ev 1000 218 767 [.ref 0, .ref 8, .ref 68, .int (nI a)] [] (S0 L) h = ev 1000 218 1047 [.ref 0, .ref 8, .ref 68, .int (nI a)] [] (S0 L) h2 := by
  obtain ⟨r, h1, h2, e1, e2, hI2, s1, s2⟩ := hst (fun j => h.1 0 (a + j)) h hI
  refine ⟨h2, hI2, s2, ?_⟩
  have b1 := sc_in (j := 1) hb hL (by decide)
  have t1 := sc_at (j := 1) hb hL (by decide)
  rw [show nI 1 = (1 : Int32) from rfl] at b1 t1
  have b2 := sc_in (j := 2) hb hL (by decide)
  have t2 := sc_at (j := 2) hb hL (by decide)
  rw [show nI 2 = (2 : Int32) from rfl] at b2 t2
  simp only [u218_767, u218_768, u218_769, u218_770, u218_771, u218_772, u218_773, u218_774, u218_775, u218_776, u218_777, u218_778, u218_781, u218_782, u218_783, u218_784, u218_785, u218_786, u218_787, u218_788, u218_789, u218_790, u218_791, u218_792, u218_795, u218_798, u218_799, gd_true, br_true, br_false, ls_0, ls_1i, ls_1r, ls_1n, ls_1l, ls_2, ls2_eq, List.set_cons_zero, List.set_cons_succ, rf_s, cs_nil, cs_int, cs_ref, cs_long, Option.bind_some, Option.toList_some, Option.toList_none, List.nil_append, List.cons_append, Nat.reduceAdd, Nat.reduceSub, Nat.reduceMul, Nat.reduceLT, Nat.reduceLeDiff, Nat.reduceEqDiff, Int32.reduceAdd, Int32.reduceSub, Int32.reduceMul, Int32.reduceLT, Int32.reduceLE, Int32.reduceToInt, Int32.reduceToNatClampNeg, Int.reduceLE, Int.reduceLT, Int.reduceSub, Int.reduceToNat, and_self, true_and, and_true, or_true, true_or, false_or, or_false, false_and, and_false, not_false_eq_true, not_true_eq_false, eq_self, kS0, lS0, kS8, kS68, b1, t1, b2, t2, e1, e2, s1, or_true, eq_self]
set_option maxHeartbeats 4000000 in
set_option maxRecDepth 100000 in
theorem law_c18 {L a : Nat} (hb : a + 6 ≤ L) (hL : L ≤ 3072) (I : aH → Prop) (hst : ∀ f : Nat → Int32, lawStp L 100 195 I [.int (f 1), .int (f 2), .int (f 3), .int (f 4)]) (h : aH) (hI : I h) : ∃ h2, I h2 ∧ h2.1 0 = h.1 0 ∧ ev 1000 218 800 [.ref 0, .ref 8, .ref 68, .int (nI a)] [] (S0 L) h = ev 1000 218 1047 [.ref 0, .ref 8, .ref 68, .int (nI a)] [] (S0 L) h2 := by
  obtain ⟨r, h1, h2, e1, e2, hI2, s1, s2⟩ := hst (fun j => h.1 0 (a + j)) h hI
  refine ⟨h2, hI2, s2, ?_⟩
  have b1 := sc_in (j := 1) hb hL (by decide)
  have t1 := sc_at (j := 1) hb hL (by decide)
  rw [show nI 1 = (1 : Int32) from rfl] at b1 t1
  have b2 := sc_in (j := 2) hb hL (by decide)
  have t2 := sc_at (j := 2) hb hL (by decide)
  rw [show nI 2 = (2 : Int32) from rfl] at b2 t2
  have b3 := sc_in (j := 3) hb hL (by decide)
  have t3 := sc_at (j := 3) hb hL (by decide)
  rw [show nI 3 = (3 : Int32) from rfl] at b3 t3
  have b4 := sc_in (j := 4) hb hL (by decide)
  have t4 := sc_at (j := 4) hb hL (by decide)
  rw [show nI 4 = (4 : Int32) from rfl] at b4 t4
  simp only [u218_800, u218_801, u218_802, u218_803, u218_804, u218_805, u218_806, u218_807, u218_808, u218_809, u218_810, u218_811, u218_812, u218_813, u218_814, u218_815, u218_816, u218_817, u218_818, u218_819, u218_820, u218_821, u218_824, u218_825, u218_826, u218_827, u218_828, u218_829, u218_830, u218_831, u218_832, u218_833, u218_834, u218_835, u218_836, u218_837, u218_838, u218_839, u218_840, u218_841, u218_842, u218_843, u218_844, u218_845, u218_848, u218_851, u218_852, gd_true, br_true, br_false, ls_0, ls_1i, ls_1r, ls_1n, ls_1l, ls_2, ls2_eq, List.set_cons_zero, List.set_cons_succ, rf_s, cs_nil, cs_int, cs_ref, cs_long, Option.bind_some, Option.toList_some, Option.toList_none, List.nil_append, List.cons_append, Nat.reduceAdd, Nat.reduceSub, Nat.reduceMul, Nat.reduceLT, Nat.reduceLeDiff, Nat.reduceEqDiff, Int32.reduceAdd, Int32.reduceSub, Int32.reduceMul, Int32.reduceLT, Int32.reduceLE, Int32.reduceToInt, Int32.reduceToNatClampNeg, Int.reduceLE, Int.reduceLT, Int.reduceSub, Int.reduceToNat, and_self, true_and, and_true, or_true, true_or, false_or, or_false, false_and, and_false, not_false_eq_true, not_true_eq_false, eq_self, kS0, lS0, kS8, kS68, b1, t1, b2, t2, b3, t3, b4, t4, e1, e2, s1, or_true, eq_self]
set_option maxHeartbeats 4000000 in
set_option maxRecDepth 100000 in
theorem law_c19 {L a : Nat} (hb : a + 6 ≤ L) (hL : L ≤ 3072) (I : aH → Prop) (hst : ∀ f : Nat → Int32, lawStp L 101 196 I [.int (f 1)]) (h : aH) (hI : I h) : ∃ h2, I h2 ∧ h2.1 0 = h.1 0 ∧ ev 1000 218 853 [.ref 0, .ref 8, .ref 68, .int (nI a)] [] (S0 L) h = ev 1000 218 1047 [.ref 0, .ref 8, .ref 68, .int (nI a)] [] (S0 L) h2 := by
  obtain ⟨r, h1, h2, e1, e2, hI2, s1, s2⟩ := hst (fun j => h.1 0 (a + j)) h hI
  refine ⟨h2, hI2, s2, ?_⟩
  have b1 := sc_in (j := 1) hb hL (by decide)
  have t1 := sc_at (j := 1) hb hL (by decide)
  rw [show nI 1 = (1 : Int32) from rfl] at b1 t1
  simp only [u218_853, u218_854, u218_855, u218_856, u218_857, u218_858, u218_859, u218_862, u218_863, u218_864, u218_865, u218_866, u218_867, u218_868, u218_871, u218_874, u218_875, gd_true, br_true, br_false, ls_0, ls_1i, ls_1r, ls_1n, ls_1l, ls_2, ls2_eq, List.set_cons_zero, List.set_cons_succ, rf_s, cs_nil, cs_int, cs_ref, cs_long, Option.bind_some, Option.toList_some, Option.toList_none, List.nil_append, List.cons_append, Nat.reduceAdd, Nat.reduceSub, Nat.reduceMul, Nat.reduceLT, Nat.reduceLeDiff, Nat.reduceEqDiff, Int32.reduceAdd, Int32.reduceSub, Int32.reduceMul, Int32.reduceLT, Int32.reduceLE, Int32.reduceToInt, Int32.reduceToNatClampNeg, Int.reduceLE, Int.reduceLT, Int.reduceSub, Int.reduceToNat, and_self, true_and, and_true, or_true, true_or, false_or, or_false, false_and, and_false, not_false_eq_true, not_true_eq_false, eq_self, kS0, lS0, kS8, kS68, b1, t1, e1, e2, s1, or_true, eq_self]
set_option maxHeartbeats 4000000 in
set_option maxRecDepth 100000 in
theorem law_c20 {L a : Nat} (hb : a + 6 ≤ L) (hL : L ≤ 3072) (I : aH → Prop) (hst : ∀ f : Nat → Int32, lawStp L 102 197 I [.int (f 1)]) (h : aH) (hI : I h) : ∃ h2, I h2 ∧ h2.1 0 = h.1 0 ∧ ev 1000 218 876 [.ref 0, .ref 8, .ref 68, .int (nI a)] [] (S0 L) h = ev 1000 218 1047 [.ref 0, .ref 8, .ref 68, .int (nI a)] [] (S0 L) h2 := by
  obtain ⟨r, h1, h2, e1, e2, hI2, s1, s2⟩ := hst (fun j => h.1 0 (a + j)) h hI
  refine ⟨h2, hI2, s2, ?_⟩
  have b1 := sc_in (j := 1) hb hL (by decide)
  have t1 := sc_at (j := 1) hb hL (by decide)
  rw [show nI 1 = (1 : Int32) from rfl] at b1 t1
  simp only [u218_876, u218_877, u218_878, u218_879, u218_880, u218_881, u218_882, u218_885, u218_886, u218_887, u218_888, u218_889, u218_890, u218_891, u218_894, u218_897, u218_898, gd_true, br_true, br_false, ls_0, ls_1i, ls_1r, ls_1n, ls_1l, ls_2, ls2_eq, List.set_cons_zero, List.set_cons_succ, rf_s, cs_nil, cs_int, cs_ref, cs_long, Option.bind_some, Option.toList_some, Option.toList_none, List.nil_append, List.cons_append, Nat.reduceAdd, Nat.reduceSub, Nat.reduceMul, Nat.reduceLT, Nat.reduceLeDiff, Nat.reduceEqDiff, Int32.reduceAdd, Int32.reduceSub, Int32.reduceMul, Int32.reduceLT, Int32.reduceLE, Int32.reduceToInt, Int32.reduceToNatClampNeg, Int.reduceLE, Int.reduceLT, Int.reduceSub, Int.reduceToNat, and_self, true_and, and_true, or_true, true_or, false_or, or_false, false_and, and_false, not_false_eq_true, not_true_eq_false, eq_self, kS0, lS0, kS8, kS68, b1, t1, e1, e2, s1, or_true, eq_self]
set_option maxHeartbeats 4000000 in
set_option maxRecDepth 100000 in
theorem law_c21 {L a : Nat} (hb : a + 6 ≤ L) (hL : L ≤ 3072) (I : aH → Prop) (hst : ∀ f : Nat → Int32, lawStp L 103 200 I [.int (f 1)]) (h : aH) (hI : I h) : ∃ h2, I h2 ∧ h2.1 0 = h.1 0 ∧ ev 1000 218 899 [.ref 0, .ref 8, .ref 68, .int (nI a)] [] (S0 L) h = ev 1000 218 1047 [.ref 0, .ref 8, .ref 68, .int (nI a)] [] (S0 L) h2 := by
  obtain ⟨r, h1, h2, e1, e2, hI2, s1, s2⟩ := hst (fun j => h.1 0 (a + j)) h hI
  refine ⟨h2, hI2, s2, ?_⟩
  have b1 := sc_in (j := 1) hb hL (by decide)
  have t1 := sc_at (j := 1) hb hL (by decide)
  rw [show nI 1 = (1 : Int32) from rfl] at b1 t1
  simp only [u218_899, u218_900, u218_901, u218_902, u218_903, u218_904, u218_905, u218_908, u218_909, u218_910, u218_911, u218_912, u218_913, u218_914, u218_917, u218_920, u218_921, gd_true, br_true, br_false, ls_0, ls_1i, ls_1r, ls_1n, ls_1l, ls_2, ls2_eq, List.set_cons_zero, List.set_cons_succ, rf_s, cs_nil, cs_int, cs_ref, cs_long, Option.bind_some, Option.toList_some, Option.toList_none, List.nil_append, List.cons_append, Nat.reduceAdd, Nat.reduceSub, Nat.reduceMul, Nat.reduceLT, Nat.reduceLeDiff, Nat.reduceEqDiff, Int32.reduceAdd, Int32.reduceSub, Int32.reduceMul, Int32.reduceLT, Int32.reduceLE, Int32.reduceToInt, Int32.reduceToNatClampNeg, Int.reduceLE, Int.reduceLT, Int.reduceSub, Int.reduceToNat, and_self, true_and, and_true, or_true, true_or, false_or, or_false, false_and, and_false, not_false_eq_true, not_true_eq_false, eq_self, kS0, lS0, kS8, kS68, b1, t1, e1, e2, s1, or_true, eq_self]
set_option maxHeartbeats 4000000 in
set_option maxRecDepth 100000 in
theorem law_c22 {L a : Nat} (hb : a + 6 ≤ L) (hL : L ≤ 3072) (I : aH → Prop) (hst : ∀ f : Nat → Int32, lawStp L 104 201 I [.int (f 1), .int (f 2)]) (h : aH) (hI : I h) : ∃ h2, I h2 ∧ h2.1 0 = h.1 0 ∧ ev 1000 218 922 [.ref 0, .ref 8, .ref 68, .int (nI a)] [] (S0 L) h = ev 1000 218 1047 [.ref 0, .ref 8, .ref 68, .int (nI a)] [] (S0 L) h2 := by
  obtain ⟨r, h1, h2, e1, e2, hI2, s1, s2⟩ := hst (fun j => h.1 0 (a + j)) h hI
  refine ⟨h2, hI2, s2, ?_⟩
  have b1 := sc_in (j := 1) hb hL (by decide)
  have t1 := sc_at (j := 1) hb hL (by decide)
  rw [show nI 1 = (1 : Int32) from rfl] at b1 t1
  have b2 := sc_in (j := 2) hb hL (by decide)
  have t2 := sc_at (j := 2) hb hL (by decide)
  rw [show nI 2 = (2 : Int32) from rfl] at b2 t2
  simp only [u218_922, u218_923, u218_924, u218_925, u218_926, u218_927, u218_928, u218_929, u218_930, u218_931, u218_932, u218_933, u218_936, u218_937, u218_938, u218_939, u218_940, u218_941, u218_942, u218_943, u218_944, u218_945, u218_946, u218_947, u218_950, u218_953, u218_954, gd_true, br_true, br_false, ls_0, ls_1i, ls_1r, ls_1n, ls_1l, ls_2, ls2_eq, List.set_cons_zero, List.set_cons_succ, rf_s, cs_nil, cs_int, cs_ref, cs_long, Option.bind_some, Option.toList_some, Option.toList_none, List.nil_append, List.cons_append, Nat.reduceAdd, Nat.reduceSub, Nat.reduceMul, Nat.reduceLT, Nat.reduceLeDiff, Nat.reduceEqDiff, Int32.reduceAdd, Int32.reduceSub, Int32.reduceMul, Int32.reduceLT, Int32.reduceLE, Int32.reduceToInt, Int32.reduceToNatClampNeg, Int.reduceLE, Int.reduceLT, Int.reduceSub, Int.reduceToNat, and_self, true_and, and_true, or_true, true_or, false_or, or_false, false_and, and_false, not_false_eq_true, not_true_eq_false, eq_self, kS0, lS0, kS8, kS68, b1, t1, b2, t2, e1, e2, s1, or_true, eq_self]
set_option maxHeartbeats 4000000 in
set_option maxRecDepth 100000 in
theorem law_c23 {L a : Nat} (hb : a + 6 ≤ L) (hL : L ≤ 3072) (I : aH → Prop) (hst : ∀ f : Nat → Int32, lawStp L 105 206 I [.int (f 1), .int (f 2)]) (h : aH) (hI : I h) : ∃ h2, I h2 ∧ h2.1 0 = h.1 0 ∧ ev 1000 218 955 [.ref 0, .ref 8, .ref 68, .int (nI a)] [] (S0 L) h = ev 1000 218 1047 [.ref 0, .ref 8, .ref 68, .int (nI a)] [] (S0 L) h2 := by
  obtain ⟨r, h1, h2, e1, e2, hI2, s1, s2⟩ := hst (fun j => h.1 0 (a + j)) h hI
  refine ⟨h2, hI2, s2, ?_⟩
  have b1 := sc_in (j := 1) hb hL (by decide)
  have t1 := sc_at (j := 1) hb hL (by decide)
  rw [show nI 1 = (1 : Int32) from rfl] at b1 t1
  have b2 := sc_in (j := 2) hb hL (by decide)
  have t2 := sc_at (j := 2) hb hL (by decide)
  rw [show nI 2 = (2 : Int32) from rfl] at b2 t2
  simp only [u218_955, u218_956, u218_957, u218_958, u218_959, u218_960, u218_961, u218_962, u218_963, u218_964, u218_965, u218_966, u218_969, u218_970, u218_971, u218_972, u218_973, u218_974, u218_975, u218_976, u218_977, u218_978, u218_979, u218_980, u218_983, u218_986, u218_987, gd_true, br_true, br_false, ls_0, ls_1i, ls_1r, ls_1n, ls_1l, ls_2, ls2_eq, List.set_cons_zero, List.set_cons_succ, rf_s, cs_nil, cs_int, cs_ref, cs_long, Option.bind_some, Option.toList_some, Option.toList_none, List.nil_append, List.cons_append, Nat.reduceAdd, Nat.reduceSub, Nat.reduceMul, Nat.reduceLT, Nat.reduceLeDiff, Nat.reduceEqDiff, Int32.reduceAdd, Int32.reduceSub, Int32.reduceMul, Int32.reduceLT, Int32.reduceLE, Int32.reduceToInt, Int32.reduceToNatClampNeg, Int.reduceLE, Int.reduceLT, Int.reduceSub, Int.reduceToNat, and_self, true_and, and_true, or_true, true_or, false_or, or_false, false_and, and_false, not_false_eq_true, not_true_eq_false, eq_self, kS0, lS0, kS8, kS68, b1, t1, b2, t2, e1, e2, s1, or_true, eq_self]
set_option maxHeartbeats 4000000 in
set_option maxRecDepth 100000 in
theorem law_c24 {L a : Nat} (hb : a + 6 ≤ L) (hL : L ≤ 3072) (I : aH → Prop) (hst : ∀ f : Nat → Int32, lawStp L 106 207 I [.int (f 1)]) (h : aH) (hI : I h) : ∃ h2, I h2 ∧ h2.1 0 = h.1 0 ∧ ev 1000 218 988 [.ref 0, .ref 8, .ref 68, .int (nI a)] [] (S0 L) h = ev 1000 218 1047 [.ref 0, .ref 8, .ref 68, .int (nI a)] [] (S0 L) h2 := by
  obtain ⟨r, h1, h2, e1, e2, hI2, s1, s2⟩ := hst (fun j => h.1 0 (a + j)) h hI
  refine ⟨h2, hI2, s2, ?_⟩
  have b1 := sc_in (j := 1) hb hL (by decide)
  have t1 := sc_at (j := 1) hb hL (by decide)
  rw [show nI 1 = (1 : Int32) from rfl] at b1 t1
  simp only [u218_988, u218_989, u218_990, u218_991, u218_992, u218_993, u218_994, u218_997, u218_998, u218_999, u218_1000, u218_1001, u218_1002, u218_1003, u218_1006, u218_1009, u218_1010, gd_true, br_true, br_false, ls_0, ls_1i, ls_1r, ls_1n, ls_1l, ls_2, ls2_eq, List.set_cons_zero, List.set_cons_succ, rf_s, cs_nil, cs_int, cs_ref, cs_long, Option.bind_some, Option.toList_some, Option.toList_none, List.nil_append, List.cons_append, Nat.reduceAdd, Nat.reduceSub, Nat.reduceMul, Nat.reduceLT, Nat.reduceLeDiff, Nat.reduceEqDiff, Int32.reduceAdd, Int32.reduceSub, Int32.reduceMul, Int32.reduceLT, Int32.reduceLE, Int32.reduceToInt, Int32.reduceToNatClampNeg, Int.reduceLE, Int.reduceLT, Int.reduceSub, Int.reduceToNat, and_self, true_and, and_true, or_true, true_or, false_or, or_false, false_and, and_false, not_false_eq_true, not_true_eq_false, eq_self, kS0, lS0, kS8, kS68, b1, t1, e1, e2, s1, or_true, eq_self]
set_option maxHeartbeats 4000000 in
set_option maxRecDepth 100000 in
theorem law_c25 {L a : Nat} (hb : a + 6 ≤ L) (hL : L ≤ 3072) (I : aH → Prop) (hst : ∀ f : Nat → Int32, lawStp L 107 208 I [.int (f 1)]) (h : aH) (hI : I h) : ∃ h2, I h2 ∧ h2.1 0 = h.1 0 ∧ ev 1000 218 1011 [.ref 0, .ref 8, .ref 68, .int (nI a)] [] (S0 L) h = ev 1000 218 1047 [.ref 0, .ref 8, .ref 68, .int (nI a)] [] (S0 L) h2 := by
  obtain ⟨r, h1, h2, e1, e2, hI2, s1, s2⟩ := hst (fun j => h.1 0 (a + j)) h hI
  refine ⟨h2, hI2, s2, ?_⟩
  have b1 := sc_in (j := 1) hb hL (by decide)
  have t1 := sc_at (j := 1) hb hL (by decide)
  rw [show nI 1 = (1 : Int32) from rfl] at b1 t1
  simp only [u218_1011, u218_1012, u218_1013, u218_1014, u218_1015, u218_1016, u218_1017, u218_1020, u218_1021, u218_1022, u218_1023, u218_1024, u218_1025, u218_1026, u218_1029, u218_1032, u218_1033, gd_true, br_true, br_false, ls_0, ls_1i, ls_1r, ls_1n, ls_1l, ls_2, ls2_eq, List.set_cons_zero, List.set_cons_succ, rf_s, cs_nil, cs_int, cs_ref, cs_long, Option.bind_some, Option.toList_some, Option.toList_none, List.nil_append, List.cons_append, Nat.reduceAdd, Nat.reduceSub, Nat.reduceMul, Nat.reduceLT, Nat.reduceLeDiff, Nat.reduceEqDiff, Int32.reduceAdd, Int32.reduceSub, Int32.reduceMul, Int32.reduceLT, Int32.reduceLE, Int32.reduceToInt, Int32.reduceToNatClampNeg, Int.reduceLE, Int.reduceLT, Int.reduceSub, Int.reduceToNat, and_self, true_and, and_true, or_true, true_or, false_or, or_false, false_and, and_false, not_false_eq_true, not_true_eq_false, eq_self, kS0, lS0, kS8, kS68, b1, t1, e1, e2, s1, or_true, eq_self]
set_option maxHeartbeats 4000000 in
set_option maxRecDepth 100000 in
theorem law_c26 {L a : Nat} (hb : a + 6 ≤ L) (hL : L ≤ 3072) (I : aH → Prop) (hst : ∀ f : Nat → Int32, lawStp L 108 209 I []) (h : aH) (hI : I h) : ∃ h2, I h2 ∧ h2.1 0 = h.1 0 ∧ ev 1000 218 1034 [.ref 0, .ref 8, .ref 68, .int (nI a)] [] (S0 L) h = ev 1000 218 1047 [.ref 0, .ref 8, .ref 68, .int (nI a)] [] (S0 L) h2 := by
  obtain ⟨r, h1, h2, e1, e2, hI2, s1, s2⟩ := hst (fun j => h.1 0 (a + j)) h hI
  refine ⟨h2, hI2, s2, ?_⟩
  simp only [u218_1034, u218_1035, u218_1038, u218_1039, u218_1042, u218_1045, u218_1046, gd_true, br_true, br_false, ls_0, ls_1i, ls_1r, ls_1n, ls_1l, ls_2, ls2_eq, List.set_cons_zero, List.set_cons_succ, rf_s, cs_nil, cs_int, cs_ref, cs_long, Option.bind_some, Option.toList_some, Option.toList_none, List.nil_append, List.cons_append, Nat.reduceAdd, Nat.reduceSub, Nat.reduceMul, Nat.reduceLT, Nat.reduceLeDiff, Nat.reduceEqDiff, Int32.reduceAdd, Int32.reduceSub, Int32.reduceMul, Int32.reduceLT, Int32.reduceLE, Int32.reduceToInt, Int32.reduceToNatClampNeg, Int.reduceLE, Int.reduceLT, Int.reduceSub, Int.reduceToNat, and_self, true_and, and_true, or_true, true_or, false_or, or_false, false_and, and_false, not_false_eq_true, not_true_eq_false, eq_self, kS0, lS0, kS8, kS68, e1, e2, s1, or_true, eq_self]
