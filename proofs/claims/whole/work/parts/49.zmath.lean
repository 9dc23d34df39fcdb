/-! java.lang.Math's three -/
noncomputable def oM2 (f : Int32 → Int32 → Int32) (n : Nat) : aP := fun d ls st S h => match st with
  | .int y :: .int x :: st => gd (¬ d = 0 ∧ (st.map fun v => v.category).sum ≤ 8) (oNx n ls (.int (f x y) :: st) S h)
  | _ => none
noncomputable def oM1 (f : Int32 → Int32) (n : Nat) : aP := fun d ls st S h => match st with
  | .int x :: st => gd (¬ d = 0 ∧ (st.map fun v => v.category).sum ≤ 8) (oNx n ls (.int (f x) :: st) S h)
  | _ => none
theorem gr_M2 (f : Int32 → Int32 → Int32) (n : Nat) : Grow (oM2 f n) := by
  refine Grow.of (fun d ls st S h => ?_)
  unfold oM2
  repeat' (first | exact GrowO.none _ | exact GrowO.nx _ _ _ _ _ | refine GrowO.gd ?_ | split)
theorem gr_M1 (f : Int32 → Int32) (n : Nat) : Grow (oM1 f n) := by
  refine Grow.of (fun d ls st S h => ?_)
  unfold oM1
  repeat' (first | exact GrowO.none _ | exact GrowO.nx _ _ _ _ _ | refine GrowO.gd ?_ | split)
theorem sim_mmax {mT : Nat → aM} {M : aM} {pc index : Nat} (hd : decode M.2.1 pc = .ok (.invokestatic index, 3)) (hl : Cond.methodLink M.1.cls index Lib.Math.max.name ∈ tg) (h2 : Cond.static Lib.Math.max.name ∈ tg) (h3 : Cond.initialized "java/lang/Math" ∈ tg) (h4 : Cond.code Lib.Math.max.name Lib.Math.max.code 2 (some .int) ∈ tg) : Sim mT M pc (oM2 (fun x y => if x < y then y else x) (pc + 3)) := by
  intro G E n1 z1 d Q hM hfr hlo ls st S h o ho
  unfold oM2 oNx at ho
  split at ho
  · next y x st' =>
    obtain ⟨⟨hg1, hg2⟩, ho⟩ := gd_some ho
    cases ho
    intro hr1 hr2 K H locs Ls cells slots hR hL hq hc hs
    obtain ⟨hx, hb, hml, hown, hts, hC, hsz, hn1, hold, hnm⟩ := hM
    exact va_mmax hx hb (hml.trans hL.2.1.symm) hown (hts _ hl) (hts _ h2) (hts _ h3) (hts _ h4) (show 1 ≤ (eR E).frames by omega) (by rw [gv_sum]; show _ ≤ (eR E).locals; omega) (show cells ≤ (eR E).cells by omega) (show slots ≤ (eR E).slots by omega) hd (K H locs Ls cells slots hR hL hq hc hs)
  · cases ho
theorem sim_mmin {mT : Nat → aM} {M : aM} {pc index : Nat} (hd : decode M.2.1 pc = .ok (.invokestatic index, 3)) (hl : Cond.methodLink M.1.cls index Lib.Math.min.name ∈ tg) (h2 : Cond.static Lib.Math.min.name ∈ tg) (h3 : Cond.initialized "java/lang/Math" ∈ tg) (h4 : Cond.code Lib.Math.min.name Lib.Math.min.code 2 (some .int) ∈ tg) : Sim mT M pc (oM2 (fun x y => if y < x then y else x) (pc + 3)) := by
  intro G E n1 z1 d Q hM hfr hlo ls st S h o ho
  unfold oM2 oNx at ho
  split at ho
  · next y x st' =>
    obtain ⟨⟨hg1, hg2⟩, ho⟩ := gd_some ho
    cases ho
    intro hr1 hr2 K H locs Ls cells slots hR hL hq hc hs
    obtain ⟨hx, hb, hml, hown, hts, hC, hsz, hn1, hold, hnm⟩ := hM
    exact va_mmin hx hb (hml.trans hL.2.1.symm) hown (hts _ hl) (hts _ h2) (hts _ h3) (hts _ h4) (show 1 ≤ (eR E).frames by omega) (by rw [gv_sum]; show _ ≤ (eR E).locals; omega) (show cells ≤ (eR E).cells by omega) (show slots ≤ (eR E).slots by omega) hd (K H locs Ls cells slots hR hL hq hc hs)
  · cases ho
theorem sim_mabs {mT : Nat → aM} {M : aM} {pc index : Nat} (hd : decode M.2.1 pc = .ok (.invokestatic index, 3)) (hl : Cond.methodLink M.1.cls index Lib.Math.abs.name ∈ tg) (h2 : Cond.static Lib.Math.abs.name ∈ tg) (h3 : Cond.initialized "java/lang/Math" ∈ tg) (h4 : Cond.code Lib.Math.abs.name Lib.Math.abs.code 1 (some .int) ∈ tg) : Sim mT M pc (oM1 (fun x => if 0 ≤ x then x else 0 - x) (pc + 3)) := by
  intro G E n1 z1 d Q hM hfr hlo ls st S h o ho
  unfold oM1 oNx at ho
  split at ho
  · next x st' =>
    obtain ⟨⟨hg1, hg2⟩, ho⟩ := gd_some ho
    cases ho
    intro hr1 hr2 K H locs Ls cells slots hR hL hq hc hs
    obtain ⟨hx, hb, hml, hown, hts, hC, hsz, hn1, hold, hnm⟩ := hM
    exact va_mabs hx hb (hml.trans hL.2.1.symm) hown (hts _ hl) (hts _ h2) (hts _ h3) (hts _ h4) (show 1 ≤ (eR E).frames by omega) (by rw [gv_sum]; show _ ≤ (eR E).locals; omega) (show cells ≤ (eR E).cells by omega) (show slots ≤ (eR E).slots by omega) hd (K H locs Ls cells slots hR hL hq hc hs)
  · cases ho
