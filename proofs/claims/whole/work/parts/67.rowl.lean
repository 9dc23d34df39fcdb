/-! rows: the law's steps -/
theorem sI_e (h : aH) (c k : Nat) (v : Int32) : (sI h c k v).1 c k = v := if_pos ⟨rfl, rfl⟩
theorem uI_e (h : aH) (c k : Nat) (f : Nat → Int32) : (uI h c f).1 c k = f k := if_pos rfl
theorem sL_e (h : aH) (c k : Nat) (v : Int64) : (sL h c k v).2.1 c k = v := if_pos ⟨rfl, rfl⟩
theorem uL_e (h : aH) (c k : Nat) (f : Nat → Int64) : (uL h c f).2.1 c k = f k := if_pos rfl
theorem Inv_thr {h : aH} (H : Inv h) : Inv (sI h 68 0 (nI 0)) := by
  obtain ⟨a1, a2, a3, a4, a5, a6, a7, a8⟩ := H
  exact ⟨IR_of (fun c k hc => by unfold dR at hc; exact ⟨by simp (disch := omega) only [sI_n, uI_n, sL_1, uL_1, sR_1], by simp (disch := omega) only [sI_2, uI_2, sL_n, uL_n, sR_21]⟩) a1, IF_of (fun c k hc => by unfold dF at hc; exact ⟨by simp (disch := omega) only [sI_n, uI_n, sL_1, uL_1, sR_1], by simp (disch := omega) only [sI_2, uI_2, sL_n, uL_n, sR_21]⟩) a2, IT_of (fun c k hc => by unfold dT at hc; exact ⟨by simp (disch := omega) only [sI_n, uI_n, sL_1, uL_1, sR_1], by simp (disch := omega) only [sI_2, uI_2, sL_n, uL_n, sR_21]⟩) a3, IA_of (fun c k hc => by unfold dA at hc; exact ⟨by simp (disch := omega) only [sI_n, uI_n, sL_1, uL_1, sR_1], by simp (disch := omega) only [sI_2, uI_2, sL_n, uL_n, sR_21]⟩) a4, IC_of (fun c k hc => by unfold dC at hc; exact ⟨by simp (disch := omega) only [sI_n, uI_n, sL_1, uL_1, sR_1], by simp (disch := omega) only [sI_2, uI_2, sL_n, uL_n, sR_21]⟩) a5, IG_of (fun c k hc => by unfold dG at hc; exact ⟨by simp (disch := omega) only [sI_n, uI_n, sL_1, uL_1, sR_1], by simp (disch := omega) only [sI_2, uI_2, sL_n, uL_n, sR_21]⟩) a6, IM_of (fun c k hc => by unfold dM at hc; exact ⟨by simp (disch := omega) only [sI_n, uI_n, sL_1, uL_1, sR_1], by simp (disch := omega) only [sI_2, uI_2, sL_n, uL_n, sR_21]⟩) a7, IB_of (fun c k hc => by unfold dB at hc; exact ⟨by simp (disch := omega) only [sI_n, uI_n, sL_1, uL_1, sR_1], by simp (disch := omega) only [sI_2, uI_2, sL_n, uL_n, sR_21]⟩) a8⟩
theorem Inv_fnd {h : aH} (H : Inv h) (v : Int32) : Inv (sI (sI (sI (sI h 8 10 v) 68 0 (nI 0)) 68 1 (nI 0)) 68 1 v) := by
  obtain ⟨a1, a2, a3, a4, a5, a6, a7, a8⟩ := H
  refine ⟨IR_of (fun c k hc => by unfold dR at hc; exact ⟨by simp (disch := omega) only [sI_n, uI_n, sL_1, uL_1, sR_1], by simp (disch := omega) only [sI_2, uI_2, sL_n, uL_n, sR_21]⟩) a1, ?_, IT_of (fun c k hc => by unfold dT at hc; exact ⟨by simp (disch := omega) only [sI_n, uI_n, sL_1, uL_1, sR_1], by simp (disch := omega) only [sI_2, uI_2, sL_n, uL_n, sR_21]⟩) a3, IA_of (fun c k hc => by unfold dA at hc; exact ⟨by simp (disch := omega) only [sI_n, uI_n, sL_1, uL_1, sR_1], by simp (disch := omega) only [sI_2, uI_2, sL_n, uL_n, sR_21]⟩) a4, IC_of (fun c k hc => by unfold dC at hc; exact ⟨by simp (disch := omega) only [sI_n, uI_n, sL_1, uL_1, sR_1], by simp (disch := omega) only [sI_2, uI_2, sL_n, uL_n, sR_21]⟩) a5, IG_of (fun c k hc => by unfold dG at hc; exact ⟨by simp (disch := omega) only [sI_n, uI_n, sL_1, uL_1, sR_1], by simp (disch := omega) only [sI_2, uI_2, sL_n, uL_n, sR_21]⟩) a6, IM_of (fun c k hc => by unfold dM at hc; exact ⟨by simp (disch := omega) only [sI_n, uI_n, sL_1, uL_1, sR_1], by simp (disch := omega) only [sI_2, uI_2, sL_n, uL_n, sR_21]⟩) a7, IB_of (fun c k hc => by unfold dB at hc; exact ⟨by simp (disch := omega) only [sI_n, uI_n, sL_1, uL_1, sR_1], by simp (disch := omega) only [sI_2, uI_2, sL_n, uL_n, sR_21]⟩) a8⟩
  unfold IF
  simp (disch := omega) only [sI_e, uI_e, sL_e, uL_e, sI_n, uI_n, sL_n, uL_n, sI_2, uI_2, sL_1, uL_1, sR_1, sR_21]
  exact ⟨trivial, a2.2⟩
theorem s0_68 (h : aH) (k : Nat) (v : Int32) : (sI h 68 k v).1 0 = h.1 0 := by
  funext j
  simp (disch := omega) only [sI_e, uI_e, sL_e, uL_e, sI_n, uI_n, sL_n, uL_n, sI_2, uI_2, sL_1, uL_1, sR_1, sR_21]
/-- both say BAD, and nothing changes -/
theorem stp_bad {L xm mm : Nat} {as : List Value} {h : aH} {v : Int32} (H : Inv h) (e1 : call 999 xm (.ref 8 :: as) (S0 L) h = some (some (.int v), S0 L, h)) (e2 : call 999 mm (.ref 68 :: as) (S0 L) h = some (some (.int v), S0 L, sI h 68 0 (nI 0))) : ∃ r h1 h2, call 999 xm (.ref 8 :: as) (S0 L) h = some (some (.int r), S0 L, h1) ∧ call 999 mm (.ref 68 :: as) (S0 L) h1 = some (some (.int r), S0 L, h2) ∧ Inv h2 ∧ h1.1 0 = h.1 0 ∧ h2.1 0 = h.1 0 :=
  ⟨v, h, _, e1, e2, Inv_thr H, rfl, s0_68 h 0 _⟩
theorem stp_fnd {L xm mm : Nat} {as : List Value} {h : aH} {v w : Int32} (H : Inv h) (e1 : call 999 xm (.ref 8 :: as) (S0 L) h = some (some (.int v), S0 L, sI h 8 10 w)) (e2 : ∀ h', call 999 mm (.ref 68 :: as) (S0 L) (sI h 8 10 w) = some (some (.int v), S0 L, h') ↔ sI (sI (sI (sI h 8 10 w) 68 0 (nI 0)) 68 1 (nI 0)) 68 1 w = h') : ∃ r h1 h2, call 999 xm (.ref 8 :: as) (S0 L) h = some (some (.int r), S0 L, h1) ∧ call 999 mm (.ref 68 :: as) (S0 L) h1 = some (some (.int r), S0 L, h2) ∧ Inv h2 ∧ h1.1 0 = h.1 0 ∧ h2.1 0 = h.1 0 :=
  ⟨v, _, _, e1, (e2 _).mpr rfl, Inv_fnd H w, by funext j; simp (disch := omega) only [sI_e, uI_e, sL_e, uL_e, sI_n, uI_n, sL_n, uL_n, sI_2, uI_2, sL_1, uL_1, sR_1, sR_21], by funext j; simp (disch := omega) only [sI_e, uI_e, sL_e, uL_e, sI_n, uI_n, sL_n, uL_n, sI_2, uI_2, sL_1, uL_1, sR_1, sR_21]⟩
theorem row_step (L : Nat) (x y z : Int32) : lawStp L 82 134 Inv [.int x, .int y, .int z] := by
  intro h H
  rcases ix3 x (n := 8) (by omega) with hx | hx | ⟨r, hr, rfl⟩
  · exact stp_bad H (k82_b1 (Or.inl hx) 998 L y z h) (k134_b1 (Or.inl hx) 997 L y z h)
  · exact stp_bad H (k82_b1 (Or.inr hx) 998 L y z h) (k134_b1 (Or.inr hx) 997 L y z h)
  rcases ix3 y (n := 3) (by omega) with hy | hy | ⟨l, hl, rfl⟩
  · exact stp_bad H (k82_b2 hr (Or.inl hy) 998 L z h) (k134_b2 hr (Or.inl hy) 997 L z h)
  · exact stp_bad H (k82_b2 hr (Or.inr hy) 998 L z h) (k134_b2 hr (Or.inr hy) 997 L z h)
  rcases ix3 z (n := 41) (by omega) with hz | ⟨-, hz⟩ | ⟨n, hn, rfl⟩
  · exact stp_fnd H (k82_n hr hl hz 998 L h) (fun h' => by rw [k134_n hr hl hz 997 L]; simp only [Option.some.injEq, Prod.mk.injEq, true_and])
  · exact stp_bad H (k82_b3 hr hl hz 998 L h) (k134_b3 hr hl hz 997 L h)
  refine ⟨nI n, _, _, k82_g hr hl hn 998 L h, k134_g hr hl hn 997 L _, ?_, by funext j; simp (disch := omega) only [sI_e, uI_e, sL_e, uL_e, sI_n, uI_n, sL_n, uL_n, sI_2, uI_2, sL_1, uL_1, sR_1, sR_21], by funext j; simp (disch := omega) only [sI_e, uI_e, sL_e, uL_e, sI_n, uI_n, sL_n, uL_n, sI_2, uI_2, sL_1, uL_1, sR_1, sR_21]⟩
  obtain ⟨a1, a2, a3, a4, a5, a6, a7, a8⟩ := H
  refine ⟨fun r' hr' => ?_, ?_, IT_of (fun c k hc => by unfold dT at hc; exact ⟨by simp (disch := omega) only [sI_n, uI_n, sL_1, uL_1, sR_1], by simp (disch := omega) only [sI_2, uI_2, sL_n, uL_n, sR_21]⟩) a3, IA_of (fun c k hc => by unfold dA at hc; exact ⟨by simp (disch := omega) only [sI_n, uI_n, sL_1, uL_1, sR_1], by simp (disch := omega) only [sI_2, uI_2, sL_n, uL_n, sR_21]⟩) a4, IC_of (fun c k hc => by unfold dC at hc; exact ⟨by simp (disch := omega) only [sI_n, uI_n, sL_1, uL_1, sR_1], by simp (disch := omega) only [sI_2, uI_2, sL_n, uL_n, sR_21]⟩) a5, IG_of (fun c k hc => by unfold dG at hc; exact ⟨by simp (disch := omega) only [sI_n, uI_n, sL_1, uL_1, sR_1], by simp (disch := omega) only [sI_2, uI_2, sL_n, uL_n, sR_21]⟩) a6, IM_of (fun c k hc => by unfold dM at hc; exact ⟨by simp (disch := omega) only [sI_n, uI_n, sL_1, uL_1, sR_1], by simp (disch := omega) only [sI_2, uI_2, sL_n, uL_n, sR_21]⟩) a7, IB_of (fun c k hc => by unfold dB at hc; exact ⟨by simp (disch := omega) only [sI_n, uI_n, sL_1, uL_1, sR_1], by simp (disch := omega) only [sI_2, uI_2, sL_n, uL_n, sR_21]⟩) a8⟩
  · by_cases e : r' = r
    · subst e
      simp (disch := omega) only [sI_e, uI_e, sL_e, uL_e, sI_n, uI_n, sL_n, uL_n, sI_2, uI_2, sL_1, uL_1, sR_1, sR_21]
      refine ⟨trivial, Or.inr ⟨l, n, hl, by omega, rfl, rfl, rfl⟩, fun i hi => ?_⟩
      (repeat' split) <;> first | rfl | omega
    · obtain ⟨b1, b2, b3⟩ := a1 r' hr'
      simp (disch := omega) only [sI_e, uI_e, sL_e, uL_e, sI_n, uI_n, sL_n, uL_n, sI_2, uI_2, sL_1, uL_1, sR_1, sR_21]
      refine ⟨b1, b2, fun i hi => ?_⟩
      rw [if_neg (by omega)]
      exact b3 i hi
  · unfold IF
    simp (disch := omega) only [sI_e, uI_e, sL_e, uL_e, sI_n, uI_n, sL_n, uL_n, sI_2, uI_2, sL_1, uL_1, sR_1, sR_21]
    exact ⟨trivial, a2.2⟩
