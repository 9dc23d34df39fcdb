/-! grounds that are alike but for the rings -/
def BEq (g g' : Nat → Int32) : Prop := g' 0 = g 0 ∧ g' 1 = g 1 ∧ g' 3 = g 3 ∧ (∀ b, isC g b → qCl g' b = qCl g b) ∧ (∀ b, b < 56 → g' (46 + b) = g (46 + b)) ∧ (∀ m, m < qM g → g' (102 + 2 * m) = g (102 + 2 * m) ∧ g' (103 + 2 * m) = g (103 + 2 * m))
set_option maxRecDepth 100000 in
set_option maxHeartbeats 400000 in
theorem BEq.w {g g' : Nat → Int32} (B : BEq g g') : qW g' = qW g := by unfold qW; rw [B.1]
set_option maxRecDepth 100000 in
set_option maxHeartbeats 400000 in
theorem BEq.h {g g' : Nat → Int32} (B : BEq g g') : qH g' = qH g := by unfold qH; rw [B.2.1]
set_option maxRecDepth 100000 in
set_option maxHeartbeats 400000 in
theorem BEq.m {g g' : Nat → Int32} (B : BEq g g') : qM g' = qM g := by unfold qM; rw [B.2.2.1]
set_option maxRecDepth 100000 in
set_option maxHeartbeats 400000 in
theorem BEq.isC {g g' : Nat → Int32} (B : BEq g g') (b : Nat) : isC g' b = isC g b := by show (_ ∧ _) = (_ ∧ _); rw [B.w, B.h]
set_option maxRecDepth 100000 in
set_option maxHeartbeats 400000 in
theorem BEq.inG {g g' : Nat → Int32} (B : BEq g g') (b : Nat) : inG g' b = inG g b := by show (_ ∧ _) = (_ ∧ _); rw [B.w, B.h]
set_option maxRecDepth 100000 in
set_option maxHeartbeats 400000 in
theorem BEq.wat {g g' : Nat → Int32} (B : BEq g g') : qWat g' = qWat g := by
  funext b
  unfold qWat
  congr 1
  apply propext
  rw [B.isC b]
  constructor
  · rintro ⟨a, c⟩; exact ⟨a, by rw [← B.2.2.2.1 b a]; exact c⟩
  · rintro ⟨a, c⟩; exact ⟨a, by rw [B.2.2.2.1 b a]; exact c⟩
set_option maxRecDepth 100000 in
set_option maxHeartbeats 400000 in
theorem BEq.wor {g g' : Nat → Int32} (B : BEq g g') : qWor g' = qWor g := by
  funext b
  unfold qWor
  by_cases q : b % 8 < qW g ∧ b / 8 < qH g
  · rw [B.isC b, B.2.2.2.1 b q]
  · rw [if_neg (fun z => q (by rw [B.isC b] at z; exact z.1)), if_neg (fun z => q z.1)]
set_option maxRecDepth 100000 in
set_option maxHeartbeats 400000 in
theorem BEq.st {g g' : Nat → Int32} (B : BEq g g') : qSt g' = qSt g := by
  funext b
  unfold qSt
  congr 1
  apply propext
  constructor
  · rintro ⟨a, c⟩; exact ⟨a, by rw [← B.2.2.2.2.1 b a]; exact c⟩
  · rintro ⟨a, c⟩; exact ⟨a, by rw [B.2.2.2.2.1 b a]; exact c⟩
set_option maxRecDepth 100000 in
set_option maxHeartbeats 400000 in
theorem BEq.p {g g' : Nat → Int32} (B : BEq g g') {m : Nat} (hm : m < qM g) : qP g' m = qP g m := by unfold qP; rw [(B.2.2.2.2.2 m hm).1]
set_option maxRecDepth 100000 in
set_option maxHeartbeats 400000 in
theorem BEq.l {g g' : Nat → Int32} (B : BEq g g') {m : Nat} (hm : m < qM g) : qL g' m = qL g m := by unfold qL; rw [(B.2.2.2.2.2 m hm).2]
set_option maxRecDepth 100000 in
set_option maxHeartbeats 400000 in
theorem BEq.stay {g g' : Nat → Int32} (B : BEq g g') : stay g' = stay g := by
  funext c w
  show (_ ∨ _) = (_ ∨ _)
  rw [B.w, B.h]
set_option maxRecDepth 100000 in
set_option maxHeartbeats 400000 in
theorem BEq.lead {g g' : Nat → Int32} (B : BEq g g') : lead g' = lead g := by
  funext c w
  show pB (_ ∧ _) = pB (_ ∧ _)
  rw [B.stay, B.st]
set_option maxRecDepth 100000 in
set_option maxHeartbeats 400000 in
theorem BEq.walks {g g' : Nat → Int32} (B : BEq g g') : ∀ (ws : List Nat) (c : Nat), walks g' c ws = walks g c ws
  | [], _ => rfl
  | w :: ws, c => by show (_ ∧ _ ∧ _) = (_ ∧ _ ∧ _); rw [B.lead, B.walks ws]
set_option maxRecDepth 100000 in
set_option maxHeartbeats 400000 in
theorem BEq.ring {g g' : Nat → Int32} (B : BEq g g') (o : Nat) (r : List Nat) : isRing g' o r = isRing g o r := by
  show (_ ∧ _ ∧ _) = (_ ∧ _ ∧ _)
  rw [B.inG, B.walks]
def rngC (g : Nat → Int32) (m : Nat) : Prop := g (110 + 21 * m) = mO ∨ (g (110 + 21 * m) = nI (qK g m) ∧ 4 ≤ qK g m ∧ qK g m ≤ 20 ∧ (∀ k, k < qK g m → ∃ w, w < 4 ∧ g (111 + 21 * m + k) = nI w) ∧ isRing g (qP g m) (qY g m))
set_option maxRecDepth 100000 in
set_option maxHeartbeats 400000 in
theorem wfG_of {g g' : Nat → Int32} (B : BEq g g') (H : wfG g) (hr : ∀ m, m < qM g → rngC g' m) (hd : ∀ m n, m < qM g → n < qM g → m ≠ n → ∀ b, ins (qP g' m) (qY g' m) b = true → ins (qP g' n) (qY g' n) b = false) : wfG g' := by
  obtain ⟨h1, h2, h3, h4, h5, h6, h7, h8, -, -⟩ := H
  refine ⟨⟨by rw [B.w, B.1]; exact h1.1, by rw [B.w]; exact h1.2⟩, ⟨by rw [B.h, B.2.1]; exact h2.1, by rw [B.h]; exact h2.2⟩, ⟨by rw [B.m, B.2.2.1]; exact h3.1, by rw [B.m]; exact h3.2⟩, by rw [B.m, B.w, B.h]; exact h4, by rw [B.m, B.w, B.h]; exact h5, fun b hb => ?_, fun b hb => ?_, fun m hm => ?_, fun m hm => hr m (by rw [← B.m]; exact hm), fun m n hm hn => hd m n (by rw [← B.m]; exact hm) (by rw [← B.m]; exact hn)⟩
  · rw [B.isC b] at hb
    rw [B.2.2.2.1 b hb]; exact h6 b hb
  · rw [B.2.2.2.2.1 b hb, B.inG]; exact h7 b hb
  · rw [B.m] at hm
    rw [B.p hm, B.l hm, B.inG, B.st, (B.2.2.2.2.2 m hm).1, (B.2.2.2.2.2 m hm).2]
    exact h8 m hm
/-- a ground's parts in the class: what doesn't hang on the rings; the rings; what is reckoned of them -/
def GCb (h : aH) (c : Nat) (g : Nat → Int32) : Prop :=
  (h.1 c 0 = g 0 ∧ h.1 c 1 = g 1 ∧ h.1 c 2 = g 3) ∧ (∀ b, b < 64 → lb (h.2.1 c 3) b = qWat g b) ∧ (∀ b, b < 64 → lb (h.2.1 c 4) b = qSt g b) ∧
  (∀ i, i < 4 → ∀ b, b < 64 → lb (h.2.1 (c + 1) i) b = (qWor g b).testBit i) ∧
  (∀ m, m < qM g → h.1 (c + 2) m = g (102 + 2 * m) ∧ h.1 (c + 3) m = g (103 + 2 * m)) ∧
  (∀ w, w < 4 → ∀ b, inG g b → lb (h.2.1 (c + 5) w) b = lead g b w)
def GCr (h : aH) (c : Nat) (g : Nat → Int32) : Prop := ∀ m, m < qM g → ∀ b, b < 64 → lb (h.2.1 (c + 4) m) b = ins (qP g m) (qY g m) b
def GCs (h : aH) (c : Nat) (g : Nat → Int32) : Prop := (∀ b, b < 64 → lb (h.2.1 c 10) b = rgd g b) ∧ (∀ b, b < 64 → lb (h.2.1 c 11) b = fE g b) ∧ (∀ b, b < 64 → lb (h.2.1 c 12) b = fS g b)
set_option maxRecDepth 100000 in
set_option maxHeartbeats 400000 in
theorem GC_iff {h : aH} {c : Nat} {g : Nat → Int32} : GC h c g ↔ GCb h c g ∧ GCr h c g ∧ GCs h c g := by
  constructor
  · rintro ⟨a1, a2, a3, a4, a5, a6, a7, a8, a9, a10⟩
    exact ⟨⟨a1, a2, a3, a4, a5, a7⟩, a6, a8, a9, a10⟩
  · rintro ⟨⟨a1, a2, a3, a4, a5, a7⟩, a6, a8, a9, a10⟩
    exact ⟨a1, a2, a3, a4, a5, a6, a7, a8, a9, a10⟩
set_option maxRecDepth 100000 in
set_option maxHeartbeats 400000 in
theorem GCb.eq {h : aH} {c : Nat} {g g' : Nat → Int32} (B : BEq g g') (H : GCb h c g) : GCb h c g' := by
  obtain ⟨a1, a2, a3, a4, a5, a7⟩ := H
  refine ⟨by rw [B.1, B.2.1, B.2.2.1]; exact a1, by rw [B.wat]; exact a2, by rw [B.st]; exact a3, by rw [B.wor]; exact a4, fun m hm => ?_, fun w hw b hb => ?_⟩
  · rw [B.m] at hm
    rw [(B.2.2.2.2.2 m hm).1, (B.2.2.2.2.2 m hm).2]; exact a5 m hm
  · rw [B.inG] at hb
    rw [B.lead]; exact a7 w hw b hb
/-! rings that are alike -/
set_option maxRecDepth 100000 in
set_option maxHeartbeats 400000 in
theorem anyM_cong {n : Nat} {f f' : Nat → Bool} (h : ∀ m, m < n → f m = f' m) : anyM n f = anyM n f' := by
  unfold anyM
  congr 1
  apply propext
  constructor
  · rintro ⟨m, a, b⟩; exact ⟨m, a, by rw [← h m a]; exact b⟩
  · rintro ⟨m, a, b⟩; exact ⟨m, a, by rw [h m a]; exact b⟩
set_option maxRecDepth 100000 in
set_option maxHeartbeats 400000 in
theorem rings_eq {g g' : Nat → Int32} (B : BEq g g') (hY : ∀ m, m < qM g → qY g' m = qY g m) : rgd g' = rgd g ∧ fE g' = fE g ∧ fS g' = fS g ∧ own g' = own g := by
  refine ⟨?_, ?_, ?_, ?_⟩
  · funext b; unfold rgd; rw [B.m]; exact anyM_cong (fun m hm => by rw [B.p hm, hY m hm])
  · funext b; unfold fE; rw [B.m, B.wat]; congr 1; exact anyM_cong (fun m hm => by rw [B.p hm, hY m hm])
  · funext b; unfold fS; rw [B.m, B.wat]; congr 1; exact anyM_cong (fun m hm => by rw [B.p hm, hY m hm])
  · funext b
    cases e : own g b with
    | some m =>
      unfold own at e
      rw [List.find?_range_eq_some] at e
      have hm := List.mem_range.mp e.2.1
      refine own_some (by rw [B.m]; exact hm) (by rw [B.p hm, hY m hm]; exact e.1) (fun j hj => ?_)
      rw [B.p (by omega), hY j (by omega)]
      have := e.2.2 j hj
      simpa using this
    | none =>
      unfold own at e
      rw [List.find?_range_eq_none] at e
      refine own_none (fun j hj => ?_)
      rw [B.m] at hj
      rw [B.p hj, hY j hj]
      have := e j hj
      simpa using this
/-! the first 194 places are all -/
set_option maxRecDepth 100000 in
set_option maxHeartbeats 400000 in
theorem BEq_194 {g g' : Nat → Int32} (H : wfG g) (h : ∀ i, i < 194 → g' i = g i) : BEq g g' := by
  have w7 := H.w7
  have h6 := H.h6
  have m4 := H.m4
  refine ⟨h 0 (by omega), h 1 (by omega), h 3 (by omega), fun b hb => ?_, fun b hb => h _ (by omega), fun m hm => ⟨h _ (by omega), h _ (by omega)⟩⟩
  have b1 := hb.1
  have b2 := hb.2
  unfold qCl
  exact h _ (by omega)
set_option maxRecDepth 100000 in
set_option maxHeartbeats 400000 in
theorem qY_cong {g g' : Nat → Int32} {m : Nat} (e : g (110 + 21 * m) = mO ∨ (g (110 + 21 * m) = nI (qK g m) ∧ qK g m ≤ 20)) (h0 : g' (110 + 21 * m) = g (110 + 21 * m)) (h : ∀ k, k < qK g m → g' (111 + 21 * m + k) = g (111 + 21 * m + k)) : qY g' m = qY g m := by
  rcases e with e | ⟨e, hk⟩
  · rw [qY_no e, qY_no (h0.trans e)]
  · have hK : qK g' m = qK g m := by unfold qK; rw [h0]
    rw [qY_is e hk, qY_is (by rw [hK, h0]; exact e) (by rw [hK]; exact hk), hK]
    apply List.map_congr_left
    intro k hk'
    rw [h k (List.mem_range.mp hk')]
set_option maxRecDepth 100000 in
set_option maxHeartbeats 400000 in
theorem wfG_194 {g g' : Nat → Int32} (H : wfG g) (h : ∀ i, i < 194 → g' i = g i) : wfG g' ∧ ∀ m, m < qM g → qY g' m = qY g m := by
  have B := BEq_194 H h
  have m4 := H.m4
  have hY : ∀ m, m < qM g → qY g' m = qY g m := fun m hm => by
    rcases H.rng hm with e | ⟨e, -, k20, -⟩
    · exact qY_cong (Or.inl e) (h _ (by omega)) (fun k hk => by
        have : qK g m = 0 := by unfold qK; rw [e]; rfl
        omega)
    · exact qY_cong (Or.inr ⟨e, k20⟩) (h _ (by omega)) (fun k hk => h _ (by omega))
  refine ⟨wfG_of B H (fun m hm => ?_) (fun m n hm hn hne b hb => ?_), hY⟩
  · have hK : qK g' m = qK g m := by unfold qK; rw [h _ (by omega)]
    rcases H.rng hm with e | ⟨e, k4, k20, e1, e2⟩
    · exact Or.inl ((h _ (by omega)).trans e)
    · refine Or.inr ⟨by rw [hK, h _ (by omega)]; exact e, by omega, by omega, fun k hk => ?_, by rw [B.ring, B.p hm, hY m hm]; exact e2⟩
      rw [h _ (by omega)]
      exact e1 k (by omega)
  · rw [B.p hm, hY m hm] at hb
    rw [B.p hn, hY n hn]
    exact H.dis hm hn hne hb
set_option maxRecDepth 100000 in
set_option maxHeartbeats 400000 in
theorem GC_194 {h : aH} {c : Nat} {g g' : Nat → Int32} (H : wfG g) (hg : ∀ i, i < 194 → g' i = g i) (K : GC h c g) : GC h c g' := by
  obtain ⟨-, hY⟩ := wfG_194 H hg
  have B := BEq_194 H hg
  obtain ⟨r1, r2, r3, r4⟩ := rings_eq B hY
  obtain ⟨K1, K2, K3⟩ := GC_iff.mp K
  refine GC_iff.mpr ⟨K1.eq B, fun m hm b hb => ?_, by unfold GCs; rw [r1, r2, r3]; exact K3⟩
  rw [B.m] at hm
  rw [B.p hm, hY m hm]; exact K2 m hm b hb
/-! one man's ring changes -/
def SBut (m : Nat) (g g' : Nat → Int32) : Prop := ∀ i, ¬ (110 + 21 * m ≤ i ∧ i < 131 + 21 * m) → g' i = g i
set_option maxRecDepth 100000 in
set_option maxHeartbeats 400000 in
theorem BEq_but {m : Nat} {g g' : Nat → Int32} (H : wfG g) (h : SBut m g g') : BEq g g' := by
  have w7 := H.w7
  have h6 := H.h6
  have m4 := H.m4
  refine ⟨h 0 (by omega), h 1 (by omega), h 3 (by omega), fun b hb => ?_, fun b hb => h _ (by omega), fun m hm => ⟨h _ (by omega), h _ (by omega)⟩⟩
  have b1 := hb.1
  have b2 := hb.2
  unfold qCl
  exact h _ (by omega)
set_option maxRecDepth 100000 in
set_option maxHeartbeats 400000 in
theorem qY_but {m n : Nat} {g g' : Nat → Int32} (H : wfG g) (h : SBut m g g') (hn : n < qM g) (hne : n ≠ m) : qY g' n = qY g n ∧ qK g' n = qK g n := by
  have e0 : g' (110 + 21 * n) = g (110 + 21 * n) := h _ (by omega)
  refine ⟨?_, by unfold qK; rw [e0]⟩
  rcases H.rng hn with e | ⟨e, -, k20, -⟩
  · exact qY_cong (Or.inl e) e0 (fun k hk => by
      have : qK g n = 0 := by unfold qK; rw [e]; rfl
      omega)
  · exact qY_cong (Or.inr ⟨e, k20⟩) e0 (fun k hk => h _ (by omega))
set_option maxRecDepth 100000 in
set_option maxHeartbeats 400000 in
theorem rngC_but {m n : Nat} {g g' : Nat → Int32} (H : wfG g) (h : SBut m g g') (hn : n < qM g) (hne : n ≠ m) : rngC g' n := by
  have B := BEq_but H h
  obtain ⟨hY, hK⟩ := qY_but H h hn hne
  have e0 : g' (110 + 21 * n) = g (110 + 21 * n) := h _ (by omega)
  rcases H.rng hn with e | ⟨e, k4, k20, e1, e2⟩
  · exact Or.inl (e0.trans e)
  · refine Or.inr ⟨by rw [hK, e0]; exact e, by omega, by omega, fun k hk => ?_, by rw [B.ring, B.p hn, hY]; exact e2⟩
    rw [h _ (by omega)]
    exact e1 k (by omega)
/-! the ring is lifted -/
set_option maxRecDepth 100000 in
set_option maxHeartbeats 400000 in
theorem wfG_lift {m : Nat} {g g' : Nat → Int32} (H : wfG g) (hm : m < qM g) (h : SBut m g g') (e : g' (110 + 21 * m) = mO) : wfG g' := by
  have B := BEq_but H h
  refine wfG_of B H (fun n hn => ?_) (fun a b ha hb hne x hx => ?_)
  · by_cases q : n = m
    · rw [q]; exact Or.inl e
    · exact rngC_but H h hn q
  · by_cases q : a = m
    · rw [q, qY_no e] at hx; cases hx
    · by_cases q2 : b = m
      · rw [q2, qY_no e]; rfl
      · rw [B.p ha, (qY_but H h ha q).1] at hx
        rw [B.p hb, (qY_but H h hb q2).1]
        exact H.dis ha hb hne hx
/-! a ring is laid -/
set_option maxRecDepth 100000 in
set_option maxHeartbeats 400000 in
theorem wfG_lay {m : Nat} {g g' : Nat → Int32} (H : wfG g) (hm : m < qM g) (h : SBut m g g') {ws : List Nat} (hr : isRing g (qP g m) ws) (hl : ws.length ≤ 20) (e : g' (110 + 21 * m) = nI ws.length) (ew : ∀ k, k < ws.length → g' (111 + 21 * m + k) = nI (ws.getD k 0)) (hc : ∀ n, n < qM g → n ≠ m → ∀ b, ins (qP g m) ws b = true → ins (qP g n) (qY g n) b = false) : wfG g' ∧ qY g' m = ws ∧ qK g' m = ws.length := by
  have B := BEq_but H h
  have hK : qK g' m = ws.length := by unfold qK; rw [e, cl (by omega)]
  have h4 := hr.2.2.2.2
  have hw4 : ∀ k, k < ws.length → ws.getD k 0 < 4 := by
    have : ∀ (vs : List Nat) (c : Nat), walks g c vs → ∀ k, k < vs.length → vs.getD k 0 < 4 := by
      intro vs
      induction vs with
      | nil => intro c _ k hk; simp at hk
      | cons v vs ih =>
        intro c hw k hk
        cases k with
        | zero => exact hw.1
        | succ k => exact ih _ hw.2.2 k (by rw [List.length_cons] at hk; omega)
    exact this ws _ hr.2.1
  have hY : qY g' m = ws := by
    rw [qY_is (by rw [hK]; exact e) (by omega), hK]
    apply List.ext_getElem
    · simp
    · intro k h1 h2
      rw [List.getElem_map, List.getElem_range, ew k h2, cl (by have := hw4 k h2; omega), List.getD_eq_getElem?_getD, List.getElem?_eq_getElem h2]
      rfl
  refine ⟨wfG_of B H (fun n hn => ?_) (fun a b ha hb hne x hx => ?_), hY, hK⟩
  · by_cases q : n = m
    · rw [q]
      refine Or.inr ⟨by rw [hK]; exact e, by omega, by omega, fun k hk => ⟨ws.getD k 0, hw4 k (by omega), ew k (by omega)⟩, by rw [B.ring, B.p hm, hY]; exact hr⟩
    · exact rngC_but H h hn q
  · by_cases q : a = m
    · have q2 : b ≠ m := fun z => hne (q.trans z.symm)
      rw [q, B.p hm, hY] at hx
      rw [B.p hb, (qY_but H h hb q2).1]
      exact hc b hb q2 x hx
    · rw [B.p ha, (qY_but H h ha q).1] at hx
      by_cases q2 : b = m
      · rw [q2, B.p hm, hY]
        cases z : ins (qP g m) ws x with
        | false => rfl
        | true => rw [hc a ha q x z] at hx; cases hx
      · rw [B.p hb, (qY_but H h hb q2).1]
        exact H.dis ha hb hne hx
