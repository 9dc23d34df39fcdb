/-! the invariant at the start -/
set_option maxRecDepth 100000 in
set_option maxHeartbeats 400000 in
theorem hr_n {xs : Nat → Int32} : ∀ (n c k : Nat), (∀ j, j < n → ¬ (c = 40 + 2 * j ∧ k = 1)) → (hr xs n).1 c k = (hB0 xs).1 c k
  | 0, _, _, _ => rfl
  | n + 1, c, k, h => by
    show (sI (hr xs n) (40 + 2 * n) 1 (-1)).1 c k = _
    rw [sI_n (h n (by omega))]
    exact hr_n n c k (fun j hj => h j (by omega))
set_option maxRecDepth 100000 in
set_option maxHeartbeats 400000 in
theorem hr_y {xs : Nat → Int32} : ∀ (n j : Nat), j < n → (hr xs n).1 (40 + 2 * j) 1 = mO
  | n + 1, j, h => by
    show (sI (hr xs n) (40 + 2 * n) 1 (-1)).1 (40 + 2 * j) 1 = _
    by_cases q : j = n
    · rw [q, sI_e]; rfl
    · rw [sI_n (by omega)]
      exact hr_y n j (by omega)
set_option maxRecDepth 100000 in
set_option maxHeartbeats 400000 in
theorem hr_2 {xs : Nat → Int32} : ∀ (n c k : Nat), (hr xs n).2.1 c k = 0
  | 0, _, _ => rfl
  | n + 1, c, k => by
    show (sI (hr xs n) (40 + 2 * n) 1 (-1)).2.1 c k = 0
    rw [sI_2]; exact hr_2 n c k
set_option maxRecDepth 100000 in
set_option maxHeartbeats 400000 in
theorem hm_n {xs : Nat → Int32} {c k : Nat} (h : c ≠ 69) : (hm xs).1 c k = (hr xs 8).1 c k := by
  unfold hm
  rw [sI_n (by omega), sI_n (by omega), sI_n (by omega), sI_n (by omega), sI_n (by omega), sI_n (by omega), sI_n (by omega), sI_n (by omega)]
set_option maxRecDepth 100000 in
set_option maxHeartbeats 400000 in
theorem hm_2 {xs : Nat → Int32} (c k : Nat) : (hm xs).2.1 c k = 0 := by
  unfold hm
  rw [sI_2, sI_2, sI_2, sI_2, sI_2, sI_2, sI_2, sI_2]; exact hr_2 8 c k
set_option maxRecDepth 100000 in
set_option maxHeartbeats 400000 in
theorem hm_69 {xs : Nat → Int32} {r : Nat} (h : r < 8) : (hm xs).1 69 r = mO := by
  unfold hm
  rcases (show r = 0 ∨ r = 1 ∨ r = 2 ∨ r = 3 ∨ r = 4 ∨ r = 5 ∨ r = 6 ∨ r = 7 by omega) with rfl | rfl | rfl | rfl | rfl | rfl | rfl | rfl
  all_goals simp (disch := omega) only [sI_e, sI_n]
  all_goals rfl
set_option maxRecDepth 100000 in
set_option maxHeartbeats 400000 in
theorem hm_0 {xs : Nat → Int32} {c k : Nat} (h1 : 8 ≤ c) (h2 : c ≠ 69) (h3 : ¬ ((c = 40 ∨ c = 42 ∨ c = 44 ∨ c = 46 ∨ c = 48 ∨ c = 50 ∨ c = 52 ∨ c = 54) ∧ k = 1)) : (hm xs).1 c k = nI 0 := by
  rw [hm_n h2, hr_n 8 c k (fun j hj => by omega)]
  show (if c = 0 then xs k else if c = 1 then strF k else if c = 5 then (bytF.getD 0 []).getD k 0 else if c = 6 then (bytF.getD 1 []).getD k 0 else if c = 7 then (bytF.getD 2 []).getD k 0 else 0) = nI 0
  rw [if_neg (by omega), if_neg (by omega), if_neg (by omega), if_neg (by omega), if_neg (by omega)]; rfl
set_option maxRecDepth 100000 in
set_option maxHeartbeats 400000 in
theorem hm_c {xs : Nat → Int32} {c k : Nat} (h1 : c < 8) : (hm xs).1 c k = (hB0 xs).1 c k := by
  rw [hm_n (by omega), hr_n 8 c k (fun j hj => by omega)]
def gZ : Nat → Int32 := fun _ => nI 0
set_option maxRecDepth 100000 in
set_option maxHeartbeats 400000 in
theorem gZ_m : qM gZ = 0 := by decide
set_option maxRecDepth 100000 in
set_option maxHeartbeats 400000 in
theorem gZ_w : qW gZ = 0 := by decide
set_option maxRecDepth 100000 in
set_option maxHeartbeats 400000 in
theorem gZ_h : qH gZ = 0 := by decide
set_option maxRecDepth 100000 in
set_option maxHeartbeats 400000 in
theorem gZ_c (b : Nat) : ¬ isC gZ b := fun z => by have := z.1; rw [gZ_w] at this; omega
set_option maxRecDepth 100000 in
set_option maxHeartbeats 400000 in
theorem gZ_wat (b : Nat) : qWat gZ b = false := pB_f (fun z => gZ_c b z.1)
set_option maxRecDepth 100000 in
set_option maxHeartbeats 400000 in
theorem gZ_wor (b : Nat) : qWor gZ b = 0 := by unfold qWor; exact if_neg (fun z => gZ_c b z.1)
set_option maxRecDepth 100000 in
set_option maxHeartbeats 400000 in
theorem gZ_st (b : Nat) : qSt gZ b = false := pB_f (fun z => by
  have := z.2
  change nI 0 = nI 1 at this
  revert this
  decide)
set_option maxRecDepth 100000 in
set_option maxHeartbeats 400000 in
theorem gZ_g {b : Nat} (h : inG gZ b) : b = 0 := by
  obtain ⟨a, c⟩ := h
  rw [gZ_w] at a
  rw [gZ_h] at c
  omega
set_option maxRecDepth 100000 in
set_option maxHeartbeats 400000 in
theorem gZ_s {b w : Nat} (h : inG gZ b) : ¬ stay gZ b w := fun z => by
  have := gZ_g h
  subst this
  unfold stay at z
  rw [gZ_w, gZ_h] at z
  omega
set_option maxRecDepth 100000 in
set_option maxHeartbeats 400000 in
theorem gZ_ld {b w : Nat} (h : inG gZ b) : lead gZ b w = false := pB_f (fun z => gZ_s h z.1)
set_option maxRecDepth 100000 in
set_option maxHeartbeats 400000 in
theorem gZ_wf : wfG gZ := by
  refine ⟨⟨by rw [gZ_w]; rfl, by rw [gZ_w]; omega⟩, ⟨by rw [gZ_h]; rfl, by rw [gZ_h]; omega⟩, ⟨by rw [gZ_m]; rfl, by rw [gZ_m]; omega⟩, fun _ => ⟨gZ_w, gZ_h⟩, fun z => by rw [gZ_m] at z; omega, fun b z => absurd z (gZ_c b), fun b _ => Or.inl rfl, fun m z => by rw [gZ_m] at z; omega, fun m z => by rw [gZ_m] at z; omega, fun m n z => by rw [gZ_m] at z; omega⟩
set_option maxRecDepth 100000 in
set_option maxHeartbeats 400000 in
theorem gZ_rg (b : Nat) : rgd gZ b = false := by unfold rgd; rw [gZ_m]; exact anyM_0 _
set_option maxRecDepth 100000 in
set_option maxHeartbeats 400000 in
theorem bE_F {f : Nat → Bool} (h : ∀ b, f b = false) (b : Nat) : bE f b = false := by unfold bE; rw [h, h, Bool.and_false]; rfl
set_option maxRecDepth 100000 in
set_option maxHeartbeats 400000 in
theorem bS_F {f : Nat → Bool} (h : ∀ b, f b = false) (b : Nat) : bS f b = false := by unfold bS; rw [h, h, Bool.and_false]; rfl
set_option maxRecDepth 100000 in
set_option maxHeartbeats 400000 in
theorem gZ_fE (b : Nat) : fE gZ b = false := by unfold fE; rw [gZ_m, anyM_0, bE_F gZ_wat]; rfl
set_option maxRecDepth 100000 in
set_option maxHeartbeats 400000 in
theorem gZ_fS (b : Nat) : fS gZ b = false := by unfold fS; rw [gZ_m, anyM_0, bS_F gZ_wat]; rfl
set_option maxRecDepth 100000 in
set_option maxHeartbeats 400000 in
theorem Inv_hm (xs : Nat → Int32) : Inv (hm xs) := by
  have e72 : (hm xs).1 72 = gZ := funext fun k => hm_0 (by omega) (by omega) (by omega)
  refine ⟨fun r hr => ?_, ?_, ⟨0, by omega, ?_, ?_, fun i hi => by omega⟩, ⟨0, by omega, ?_, ?_, fun i hi => by omega⟩, ⟨fun k => ?_, fun k => ?_, fun k => ?_, fun k => ?_⟩, ?_, fun k hk => Or.inl ⟨?_, ?_⟩, fun c hc hl => ?_, fun k hk h1 => ?_⟩
  · refine ⟨?_, Or.inl (hm_69 hr), fun i hi => ?_⟩
    · rw [hm_69 hr, hm_n (by omega)]; exact hr_y 8 r hr
    · rw [hm_0 (by omega) (by omega) (by omega), hm_0 (by omega) (by omega) (by omega)]
  · exact ⟨(hm_0 (by omega) (by omega) (by omega)).trans (hm_0 (by omega) (by omega) (by omega)).symm, (hm_0 (by omega) (by omega) (by omega)).trans (hm_0 (by omega) (by omega) (by omega)).symm⟩
  · exact hm_0 (by omega) (by omega) (by omega)
  · exact hm_0 (by omega) (by omega) (by omega)
  · exact hm_0 (by omega) (by omega) (by omega)
  · exact hm_0 (by omega) (by omega) (by omega)
  · exact hm_c (by omega)
  · exact hm_c (by omega)
  · exact hm_c (by omega)
  · exact hm_c (by omega)
  · unfold IG
    rw [e72]
    refine ⟨gZ_wf, ⟨⟨hm_0 (by omega) (by omega) (by omega), hm_0 (by omega) (by omega) (by omega), hm_0 (by omega) (by omega) (by omega)⟩, fun b _ => ?_, fun b _ => ?_, fun i _ b _ => ?_, fun m z => ?_, fun m z => ?_, fun w _ b z => ?_, fun b _ => ?_, fun b _ => ?_, fun b _ => ?_⟩, ?_, fun c w z1 z2 => absurd z2 (gZ_s z1), fun b z => absurd z (gZ_c b), fun b z => absurd z (gZ_c b)⟩
    · rw [hm_2, lb_0, gZ_wat]
    · rw [hm_2, lb_0, gZ_st]
    · rw [hm_2, lb_0, gZ_wor, Nat.zero_testBit]
    · rw [gZ_m] at z; omega
    · rw [gZ_m] at z; omega
    · rw [hm_2, lb_0, gZ_ld z]
    · rw [hm_2, lb_0, gZ_rg]
    · rw [hm_2, lb_0, gZ_fE]
    · rw [hm_2, lb_0, gZ_fS]
    · rw [if_pos gZ_m]; exact hm_0 (by omega) (by omega) (by omega)
  · exact hm_0 (by omega) (by omega) (by omega)
  · exact hm_0 (by omega) (by omega) (by omega)
  · rw [hm_2, lb_0] at hl; cases hl
  · rw [hm_0 (by omega) (by omega) (by omega)] at h1
    exact absurd h1 (by decide)
