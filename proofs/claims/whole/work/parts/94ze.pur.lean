/-! what a text says: pure -/
def nxt (T : Nat → Nat) (n s : Nat) : Nat := tS T n (tE T n s)
set_option maxRecDepth 100000 in
set_option maxHeartbeats 400000 in
theorem nxt_le {T : Nat → Nat} {n s : Nat} (h : s ≤ n) : nxt T n s ≤ n := (tS_le (tE_le h).2).2
set_option maxRecDepth 100000 in
set_option maxHeartbeats 400000 in
theorem wd0 {T : Nat → Nat} {n s : Nat} (h : s ≤ n) : WD T n s (tE T n s) (tT T n s) := ⟨h, rfl, rfl⟩
def qS (g : Nat → Int32) : Nat := (g 2).toNatClampNeg
def nuV (T : Nat → Nat) (n s : Nat) : Nat := numv T s (tE T n s - s)
def isWd (T : Nat → Nat) (n s i : Nat) : Prop := isW T s (tE T n s) (tT T n s) i
def ceP (T : Nat → Nat) (n s : Nat) (g : Nat → Int32) : Prop := ceK T s (tE T n s) (tT T n s) (qW g) (qH g)
def ltI (v : Nat) : Int32 := if v = 119 then mO else nI (v - 97)
def rowG (T : Nat → Nat) (s e : Nat) (g : Nat → Int32) : Nat → Int32 := fun j => if j = 0 then nI (e - s) else if j = 1 then nI (qH g + 1) else if 4 + 7 * qH g ≤ j ∧ j < 4 + 7 * qH g + (e - s) then ltI (T (s + (j - (4 + 7 * qH g)))) else g j
def stoG (x y : Nat) (g : Nat → Int32) : Nat → Int32 := fun j => if j = 46 + (x + 8 * y) then nI 1 else if j = 2 then nI (qS g + 1) else g j
def manG (x y r : Nat) (g : Nat → Int32) : Nat → Int32 := fun j => if j = 102 + 2 * qM g then nI (x + 8 * y) else if j = 103 + 2 * qM g then nI r else if j = 3 then nI (qM g + 1) else g j
def PW (g : Nat → Int32) : Prop := (g 0 = nI (qW g) ∧ qW g ≤ 7) ∧ (g 1 = nI (qH g) ∧ qH g ≤ 6) ∧ (g 3 = nI (qM g) ∧ qM g ≤ 4) ∧ (g 2 = nI (qS g) ∧ qS g ≤ 8) ∧ (qH g = 0 ↔ qW g = 0) ∧ (∀ b, isC g b → qCl g b = mO ∨ ∃ w, w ≤ 9 ∧ qCl g b = nI w) ∧ (∀ b, b < 56 → g (46 + b) = nI 0 ∨ (g (46 + b) = nI 1 ∧ inG g b)) ∧ (∀ m, m < qM g → (g (102 + 2 * m) = nI (qP g m) ∧ inG g (qP g m) ∧ qSt g (qP g m) = false) ∧ (g (103 + 2 * m) = nI (qL g m) ∧ qL g m ≤ 12)) ∧ ∀ m, m < 4 → g (110 + 21 * m) = mO
set_option maxRecDepth 100000 in
set_option maxHeartbeats 400000 in
theorem qSt_cong {g g' : Nat → Int32} (h : ∀ b, b < 56 → g' (46 + b) = g (46 + b)) (b : Nat) : qSt g' b = qSt g b := by
  unfold qSt
  congr 1
  apply propext
  exact ⟨fun z => ⟨z.1, by rw [← h b z.1]; exact z.2⟩, fun z => ⟨z.1, by rw [h b z.1]; exact z.2⟩⟩
set_option maxRecDepth 100000 in
set_option maxHeartbeats 400000 in
theorem inG_mono {g g' : Nat → Int32} (h1 : qW g ≤ qW g') (h2 : qH g ≤ qH g') {c : Nat} (h : inG g c) : inG g' c := ⟨by have := h.1; omega, by have := h.2; omega⟩
/-! a row is read -/
set_option maxRecDepth 100000 in
set_option maxHeartbeats 400000 in
theorem rowG_0 (T : Nat → Nat) (s e : Nat) (g : Nat → Int32) : rowG T s e g 0 = nI (e - s) := if_pos rfl
set_option maxRecDepth 100000 in
set_option maxHeartbeats 400000 in
theorem rowG_1 (T : Nat → Nat) (s e : Nat) (g : Nat → Int32) : rowG T s e g 1 = nI (qH g + 1) := by unfold rowG; rw [if_neg (by omega), if_pos rfl]
set_option maxRecDepth 100000 in
set_option maxHeartbeats 400000 in
theorem rowG_n {T : Nat → Nat} {s e j : Nat} {g : Nat → Int32} (h2 : 2 ≤ j) (hn : ¬ (4 + 7 * qH g ≤ j ∧ j < 4 + 7 * qH g + (e - s))) : rowG T s e g j = g j := by unfold rowG; rw [if_neg (by omega), if_neg (by omega), if_neg hn]
set_option maxRecDepth 100000 in
set_option maxHeartbeats 400000 in
theorem rowG_c {T : Nat → Nat} {s e x : Nat} {g : Nat → Int32} (hx : x < e - s) : rowG T s e g (4 + 7 * qH g + x) = ltI (T (s + x)) := by
  unfold rowG
  rw [if_neg (by omega), if_neg (by omega), if_pos ⟨by omega, by omega⟩, show 4 + 7 * qH g + x - (4 + 7 * qH g) = x by omega]
set_option maxRecDepth 100000 in
set_option maxHeartbeats 400000 in
theorem rowG_w {T : Nat → Nat} {s e : Nat} {g : Nat → Int32} (h : e - s ≤ 7) : qW (rowG T s e g) = e - s := by unfold qW; rw [rowG_0, cl (by omega)]
set_option maxRecDepth 100000 in
set_option maxHeartbeats 400000 in
theorem rowG_h {T : Nat → Nat} {s e : Nat} {g : Nat → Int32} (h : qH g ≤ 6) : qH (rowG T s e g) = qH g + 1 := by unfold qH; rw [rowG_1]; unfold qH at h ⊢; rw [cl (by omega)]
set_option maxRecDepth 100000 in
set_option maxHeartbeats 400000 in
theorem rowG_m {T : Nat → Nat} {s e : Nat} {g : Nat → Int32} : qM (rowG T s e g) = qM g := by unfold qM; rw [rowG_n (by omega) (by omega)]
set_option maxRecDepth 100000 in
set_option maxHeartbeats 400000 in
theorem rowG_s {T : Nat → Nat} {s e : Nat} {g : Nat → Int32} : qS (rowG T s e g) = qS g := by unfold qS; rw [rowG_n (by omega) (by omega)]
set_option maxRecDepth 100000 in
set_option maxHeartbeats 400000 in
theorem lt_c {v : Nat} (h : ceB v) : ltI v = mO ∨ ∃ w, w ≤ 9 ∧ ltI v = nI w := by
  unfold ltI
  by_cases q : v = 119
  · rw [if_pos q]; exact Or.inl rfl
  · rw [if_neg q]
    unfold ceB at h
    exact Or.inr ⟨v - 97, by omega, rfl⟩
set_option maxRecDepth 100000 in
set_option maxHeartbeats 400000 in
theorem row_cl {T : Nat → Nat} {s e b : Nat} {g : Nat → Int32} (hb : b / 8 = qH g) (hx : b % 8 < e - s) : qCl (rowG T s e g) b = ltI (T (s + b % 8)) := by
  unfold qCl
  rw [hb]
  exact rowG_c hx
set_option maxRecDepth 100000 in
set_option maxHeartbeats 400000 in
theorem row_cl2 {T : Nat → Nat} {s e b : Nat} {g : Nat → Int32} (h7 : b % 8 < 7) (hb : b / 8 < qH g) : qCl (rowG T s e g) b = qCl g b := by
  unfold qCl
  exact rowG_n (by omega) (by omega)
set_option maxRecDepth 100000 in
set_option maxHeartbeats 400000 in
theorem row_isC {T : Nat → Nat} {s e b : Nat} {g : Nat → Int32} (h7 : e - s ≤ 7) (h6 : qH g < 6) (hw : qH g = 0 ∨ e - s = qW g) : isC (rowG T s e g) b ↔ (isC g b ∨ (b / 8 = qH g ∧ b % 8 < e - s)) := by
  unfold isC
  rw [rowG_w h7, rowG_h (by omega)]
  omega
set_option maxRecDepth 100000 in
set_option maxHeartbeats 400000 in
theorem row_wat {T : Nat → Nat} {s e : Nat} {g : Nat → Int32} (H : PW g) (h7 : e - s ≤ 7) (h6 : qH g < 6) (hw : qH g = 0 ∨ e - s = qW g) (hc : ∀ j, s ≤ j → j < e → ceB (T j)) (b : Nat) : qWat (rowG T s e g) b = (qWat g b || decide ((b / 8 = qH g ∧ b % 8 < e - s) ∧ T (s + b % 8) = 119)) := by
  have w7 := H.1.2
  unfold qWat
  by_cases q : b / 8 = qH g ∧ b % 8 < e - s
  · have nc : ¬ isC g b := fun z => by have := z.2; omega
    rw [pB_f (p := isC g b ∧ _) (fun z => nc z.1), Bool.false_or]
    by_cases q2 : T (s + b % 8) = 119
    · rw [decide_eq_true ⟨q, q2⟩]
      exact pB_t ⟨(row_isC h7 h6 hw).mpr (Or.inr q), by rw [row_cl q.1 q.2]; exact if_pos q2⟩
    · rw [decide_eq_false (fun z => q2 z.2)]
      refine pB_f (fun z => ?_)
      have := z.2
      rw [row_cl q.1 q.2] at this
      unfold ltI at this
      rw [if_neg q2] at this
      have cb := hc (s + b % 8) (by omega) (by omega)
      unfold ceB at cb
      exact (eqmF (a := T (s + b % 8) - 97) (by omega)).mp this
  · rw [decide_eq_false (fun z => q z.1), Bool.or_false]
    congr 1
    apply propext
    constructor
    · rintro ⟨z1, z2⟩
      have z3 := ((row_isC h7 h6 hw).mp z1).resolve_right q
      have := z3.1
      have := z3.2
      exact ⟨z3, by rw [row_cl2 (by omega) (by omega)] at z2; exact z2⟩
    · rintro ⟨z1, z2⟩
      have := z1.1
      have := z1.2
      exact ⟨(row_isC h7 h6 hw).mpr (Or.inl z1), by rw [row_cl2 (by omega) (by omega)]; exact z2⟩
set_option maxRecDepth 100000 in
set_option maxHeartbeats 400000 in
theorem row_wor {T : Nat → Nat} {s e : Nat} {g : Nat → Int32} (H : PW g) (h7 : e - s ≤ 7) (h6 : qH g < 6) (hw : qH g = 0 ∨ e - s = qW g) (hc : ∀ j, s ≤ j → j < e → ceB (T j)) (b : Nat) : qWor (rowG T s e g) b = if (b / 8 = qH g ∧ b % 8 < e - s) ∧ T (s + b % 8) ≠ 119 then T (s + b % 8) - 97 else qWor g b := by
  have w7 := H.1.2
  by_cases q : b / 8 = qH g ∧ b % 8 < e - s
  · have nc : ¬ isC g b := fun z => by have := z.2; omega
    have cb := hc (s + b % 8) (by omega) (by omega)
    unfold ceB at cb
    by_cases q2 : T (s + b % 8) = 119
    · rw [if_neg (fun z => z.2 q2)]
      unfold qWor
      rw [if_neg (fun z => z.2 (by rw [row_cl q.1 q.2]; exact if_pos q2)), if_neg (fun z => nc z.1)]
    · rw [if_pos ⟨q, q2⟩]
      have e1 : qCl (rowG T s e g) b = nI (T (s + b % 8) - 97) := by rw [row_cl q.1 q.2]; exact if_neg q2
      unfold qWor
      rw [e1, if_pos ⟨(row_isC h7 h6 hw).mpr (Or.inr q), fun z => (eqmF (a := T (s + b % 8) - 97) (by omega)).mp z⟩, cl (by omega)]
  · rw [if_neg (fun z => q z.1)]
    unfold qWor
    by_cases z1 : isC g b
    · have := z1.1
      have := z1.2
      have e1 : qCl (rowG T s e g) b = qCl g b := row_cl2 (by omega) (by omega)
      have e2 : isC (rowG T s e g) b := (row_isC h7 h6 hw).mpr (Or.inl z1)
      rw [e1]
      by_cases z2 : qCl g b = mO
      · rw [if_neg (fun z => z.2 z2), if_neg (fun z => z.2 z2)]
      · rw [if_pos ⟨e2, z2⟩, if_pos ⟨z1, z2⟩]
    · rw [if_neg (fun z => z1 (((row_isC h7 h6 hw).mp z.1).resolve_right q)), if_neg (fun z => z1 z.1)]
set_option maxRecDepth 100000 in
set_option maxHeartbeats 400000 in
theorem row_st {T : Nat → Nat} {s e : Nat} {g : Nat → Int32} (h7 : e - s ≤ 7) (h6 : qH g < 6) (b : Nat) : qSt (rowG T s e g) b = qSt g b := qSt_cong (fun b hb => rowG_n (by omega) (by omega)) b
set_option maxRecDepth 100000 in
set_option maxHeartbeats 400000 in
theorem PW_row {T : Nat → Nat} {s e : Nat} {g : Nat → Int32} (H : PW g) (h0 : s < e) (h7 : e - s ≤ 7) (h6 : qH g < 6) (hw : qH g = 0 ∨ e - s = qW g) (hc : ∀ j, s ≤ j → j < e → ceB (T j)) : PW (rowG T s e g) := by
  have rw := rowG_w (T := T) (g := g) h7
  have rh := rowG_h (T := T) (s := s) (e := e) (g := g) (by omega)
  have rm := rowG_m (T := T) (s := s) (e := e) (g := g)
  have rs := rowG_s (T := T) (s := s) (e := e) (g := g)
  obtain ⟨p0, p1, p3, p2, p4, p5, p6, p7, p8⟩ := H
  have H : PW g := ⟨p0, p1, p3, p2, p4, p5, p6, p7, p8⟩
  have m4 := p3.2
  have m1 : qW g ≤ qW (rowG T s e g) := by rw [rw]; omega
  have m2 : qH g ≤ qH (rowG T s e g) := by omega
  refine ⟨⟨by rw [rw, rowG_0], by omega⟩, ⟨by rw [rh, rowG_1], by omega⟩, ⟨by rw [rm, rowG_n (by omega) (by omega)]; exact p3.1, by omega⟩, ⟨by rw [rs, rowG_n (by omega) (by omega)]; exact p2.1, by omega⟩, by omega, fun b hb => ?_, fun b hb => ?_, fun m hm => ?_, fun m hm => by rw [rowG_n (by omega) (by omega)]; exact p8 m hm⟩
  · rcases (row_isC h7 h6 hw).mp hb with q | q
    · have := q.1
      have := q.2
      rw [row_cl2 (by omega) (by omega)]; exact p5 b q
    · rw [row_cl q.1 q.2]; exact lt_c (hc _ (by omega) (by omega))
  · rw [rowG_n (by omega) (by omega)]
    exact (p6 b hb).imp id (fun z => ⟨z.1, inG_mono m1 m2 z.2⟩)
  · rw [rm] at hm
    obtain ⟨⟨a1, a2, a3⟩, a4, a5⟩ := p7 m hm
    have e1 : qP (rowG T s e g) m = qP g m := by unfold qP; rw [rowG_n (by omega) (by omega)]
    have e2 : qL (rowG T s e g) m = qL g m := by unfold qL; rw [rowG_n (by omega) (by omega)]
    rw [e1, e2, row_st h7 h6, rowG_n (by omega) (by omega), rowG_n (by omega) (by omega)]
    exact ⟨⟨a1, inG_mono m1 m2 a2, a3⟩, a4, a5⟩
/-! a stone is read -/
set_option maxRecDepth 100000 in
set_option maxHeartbeats 400000 in
theorem stoG_n {x y j : Nat} {g : Nat → Int32} (h1 : j ≠ 46 + (x + 8 * y)) (h2 : j ≠ 2) : stoG x y g j = g j := by unfold stoG; rw [if_neg h1, if_neg h2]
set_option maxRecDepth 100000 in
set_option maxHeartbeats 400000 in
theorem stoG_e (x y : Nat) (g : Nat → Int32) : stoG x y g (46 + (x + 8 * y)) = nI 1 := if_pos rfl
set_option maxRecDepth 100000 in
set_option maxHeartbeats 400000 in
theorem stoG_2 (x y : Nat) (g : Nat → Int32) : stoG x y g 2 = nI (qS g + 1) := by unfold stoG; rw [if_neg (by omega), if_pos rfl]
set_option maxRecDepth 100000 in
set_option maxHeartbeats 400000 in
theorem sto_q {x y : Nat} {g : Nat → Int32} : qW (stoG x y g) = qW g ∧ qH (stoG x y g) = qH g ∧ qM (stoG x y g) = qM g := by
  unfold qW qH qM
  rw [stoG_n (by omega) (by omega), stoG_n (by omega) (by omega), stoG_n (by omega) (by omega)]
  exact ⟨rfl, rfl, rfl⟩
set_option maxRecDepth 100000 in
set_option maxHeartbeats 400000 in
theorem sto_s {x y : Nat} {g : Nat → Int32} (h : qS g < 8) : qS (stoG x y g) = qS g + 1 := by
  unfold qS; rw [stoG_2]; unfold qS at h ⊢; rw [cl (by omega)]
set_option maxRecDepth 100000 in
set_option maxHeartbeats 400000 in
theorem sto_isC {x y : Nat} {g : Nat → Int32} (b : Nat) : isC (stoG x y g) b = isC g b := by
  obtain ⟨e1, e2, -⟩ := sto_q (x := x) (y := y) (g := g)
  unfold isC
  rw [e1, e2]
set_option maxRecDepth 100000 in
set_option maxHeartbeats 400000 in
theorem sto_cl {x y : Nat} {g : Nat → Int32} (H : PW g) {b : Nat} (hb : isC g b) : qCl (stoG x y g) b = qCl g b := by
  have := hb.1
  have := hb.2
  have := H.1.2
  have := H.2.1.2
  unfold qCl
  exact stoG_n (by omega) (by omega)
set_option maxRecDepth 100000 in
set_option maxHeartbeats 400000 in
theorem sto_wat {x y : Nat} {g : Nat → Int32} (H : PW g) (b : Nat) : qWat (stoG x y g) b = qWat g b := by
  unfold qWat
  congr 1
  apply propext
  rw [sto_isC]
  exact ⟨fun z => ⟨z.1, by rw [← sto_cl H z.1]; exact z.2⟩, fun z => ⟨z.1, by rw [sto_cl H z.1]; exact z.2⟩⟩
set_option maxRecDepth 100000 in
set_option maxHeartbeats 400000 in
theorem sto_wor {x y : Nat} {g : Nat → Int32} (H : PW g) (b : Nat) : qWor (stoG x y g) b = qWor g b := by
  unfold qWor
  by_cases q : b % 8 < qW g ∧ b / 8 < qH g
  · rw [sto_isC, sto_cl H q]
  · rw [if_neg (fun z => q (by rw [sto_isC] at z; exact z.1)), if_neg (fun z => q z.1)]
set_option maxRecDepth 100000 in
set_option maxHeartbeats 400000 in
theorem sto_st {x y : Nat} {g : Nat → Int32} (h : x + 8 * y < 56) (b : Nat) : qSt (stoG x y g) b = (qSt g b || decide (b = x + 8 * y)) := by
  unfold qSt
  by_cases q : b = x + 8 * y
  · subst q
    rw [decide_eq_true rfl, Bool.or_true]
    exact pB_t ⟨h, stoG_e x y g⟩
  · rw [decide_eq_false q, Bool.or_false]
    congr 1
    apply propext
    exact ⟨fun z => ⟨z.1, by rw [stoG_n (by omega) (by omega)] at z; exact z.2⟩, fun z => ⟨z.1, by rw [stoG_n (by omega) (by omega)]; exact z.2⟩⟩
set_option maxRecDepth 100000 in
set_option maxHeartbeats 400000 in
theorem PW_sto {x y : Nat} {g : Nat → Int32} (H : PW g) (hm : qM g = 0) (hx : x ≤ qW g) (hy : y ≤ qH g) (h8 : qS g < 8) : PW (stoG x y g) := by
  obtain ⟨p0, p1, p3, p2, p4, p5, p6, p7, p8⟩ := H
  have H : PW g := ⟨p0, p1, p3, p2, p4, p5, p6, p7, p8⟩
  have w7 := p0.2
  have h6 := p1.2
  obtain ⟨e1, e2, e3⟩ := sto_q (x := x) (y := y) (g := g)
  have e4 := sto_s (x := x) (y := y) h8
  refine ⟨⟨by rw [e1, stoG_n (by omega) (by omega)]; exact p0.1, by omega⟩, ⟨by rw [e2, stoG_n (by omega) (by omega)]; exact p1.1, by omega⟩, ⟨by rw [e3, stoG_n (by omega) (by omega)]; exact p3.1, by omega⟩, ⟨by rw [e4, stoG_2], by omega⟩, by rw [e1, e2]; exact p4, fun b hb => ?_, fun b hb => ?_, fun m hm' => by omega, fun m hm => by rw [stoG_n (by omega) (by omega)]; exact p8 m hm⟩
  · rw [sto_isC] at hb
    rw [sto_cl H hb]; exact p5 b hb
  · by_cases q : b = x + 8 * y
    · subst q
      exact Or.inr ⟨stoG_e x y g, by rw [e1]; omega, by rw [e2]; omega⟩
    · rw [stoG_n (by omega) (by omega)]
      exact (p6 b hb).imp id (fun z => ⟨z.1, inG_mono (by omega) (by omega) z.2⟩)
/-! a man is read -/
set_option maxRecDepth 100000 in
set_option maxHeartbeats 400000 in
theorem manG_n {x y r j : Nat} {g : Nat → Int32} (h1 : j ≠ 102 + 2 * qM g) (h2 : j ≠ 103 + 2 * qM g) (h3 : j ≠ 3) : manG x y r g j = g j := by unfold manG; rw [if_neg h1, if_neg h2, if_neg h3]
set_option maxRecDepth 100000 in
set_option maxHeartbeats 400000 in
theorem manG_p (x y r : Nat) (g : Nat → Int32) : manG x y r g (102 + 2 * qM g) = nI (x + 8 * y) := if_pos rfl
set_option maxRecDepth 100000 in
set_option maxHeartbeats 400000 in
theorem manG_l (x y r : Nat) (g : Nat → Int32) : manG x y r g (103 + 2 * qM g) = nI r := by unfold manG; rw [if_neg (by omega), if_pos rfl]
set_option maxRecDepth 100000 in
set_option maxHeartbeats 400000 in
theorem manG_3 {x y r : Nat} {g : Nat → Int32} : manG x y r g 3 = nI (qM g + 1) := by unfold manG; rw [if_neg (by omega), if_neg (by omega), if_pos rfl]
set_option maxRecDepth 100000 in
set_option maxHeartbeats 400000 in
theorem man_q {x y r : Nat} {g : Nat → Int32} : qW (manG x y r g) = qW g ∧ qH (manG x y r g) = qH g ∧ qS (manG x y r g) = qS g := by
  unfold qW qH qS
  rw [manG_n (by omega) (by omega) (by omega), manG_n (by omega) (by omega) (by omega), manG_n (by omega) (by omega) (by omega)]
  exact ⟨rfl, rfl, rfl⟩
set_option maxRecDepth 100000 in
set_option maxHeartbeats 400000 in
theorem man_m {x y r : Nat} {g : Nat → Int32} (h : qM g < 4) : qM (manG x y r g) = qM g + 1 := by
  unfold qM; rw [manG_3]; unfold qM at h ⊢; rw [cl (by omega)]
set_option maxRecDepth 100000 in
set_option maxHeartbeats 400000 in
theorem man_isC {x y r : Nat} {g : Nat → Int32} (b : Nat) : isC (manG x y r g) b = isC g b := by
  obtain ⟨e1, e2, -⟩ := man_q (x := x) (y := y) (r := r) (g := g)
  unfold isC
  rw [e1, e2]
set_option maxRecDepth 100000 in
set_option maxHeartbeats 400000 in
theorem man_cl {x y r : Nat} {g : Nat → Int32} (H : PW g) {b : Nat} (hb : isC g b) : qCl (manG x y r g) b = qCl g b := by
  have := hb.1
  have := hb.2
  have := H.1.2
  have := H.2.1.2
  unfold qCl
  exact manG_n (by omega) (by omega) (by omega)
set_option maxRecDepth 100000 in
set_option maxHeartbeats 400000 in
theorem man_wat {x y r : Nat} {g : Nat → Int32} (H : PW g) (b : Nat) : qWat (manG x y r g) b = qWat g b := by
  unfold qWat
  congr 1
  apply propext
  rw [man_isC]
  exact ⟨fun z => ⟨z.1, by rw [← man_cl H z.1]; exact z.2⟩, fun z => ⟨z.1, by rw [man_cl H z.1]; exact z.2⟩⟩
set_option maxRecDepth 100000 in
set_option maxHeartbeats 400000 in
theorem man_wor {x y r : Nat} {g : Nat → Int32} (H : PW g) (b : Nat) : qWor (manG x y r g) b = qWor g b := by
  unfold qWor
  by_cases q : b % 8 < qW g ∧ b / 8 < qH g
  · rw [man_isC, man_cl H q]
  · rw [if_neg (fun z => q (by rw [man_isC] at z; exact z.1)), if_neg (fun z => q z.1)]
set_option maxRecDepth 100000 in
set_option maxHeartbeats 400000 in
theorem man_st {x y r : Nat} {g : Nat → Int32} (b : Nat) : qSt (manG x y r g) b = qSt g b := qSt_cong (fun b hb => manG_n (by omega) (by omega) (by omega)) b
set_option maxRecDepth 100000 in
set_option maxHeartbeats 400000 in
theorem PW_man {x y r : Nat} {g : Nat → Int32} (H : PW g) (hx : x ≤ qW g) (hy : y ≤ qH g) (hr : r ≤ 12) (hs : qSt g (x + 8 * y) = false) (h4 : qM g < 4) : PW (manG x y r g) := by
  obtain ⟨p0, p1, p3, p2, p4, p5, p6, p7, p8⟩ := H
  have H : PW g := ⟨p0, p1, p3, p2, p4, p5, p6, p7, p8⟩
  have w7 := p0.2
  have h6 := p1.2
  obtain ⟨e1, e2, e4⟩ := man_q (x := x) (y := y) (r := r) (g := g)
  have e3 := man_m (x := x) (y := y) (r := r) h4
  refine ⟨⟨by rw [e1, manG_n (by omega) (by omega) (by omega)]; exact p0.1, by omega⟩, ⟨by rw [e2, manG_n (by omega) (by omega) (by omega)]; exact p1.1, by omega⟩, ⟨by rw [e3, manG_3], by omega⟩, ⟨by rw [e4, manG_n (by omega) (by omega) (by omega)]; exact p2.1, by rw [e4]; exact p2.2⟩, by rw [e1, e2]; exact p4, fun b hb => ?_, fun b hb => ?_, fun m hm => ?_, fun m hm => by rw [manG_n (by omega) (by omega) (by omega)]; exact p8 m hm⟩
  · rw [man_isC] at hb
    rw [man_cl H hb]; exact p5 b hb
  · rw [manG_n (by omega) (by omega) (by omega)]
    exact (p6 b hb).imp id (fun z => ⟨z.1, inG_mono (by omega) (by omega) z.2⟩)
  · rw [e3] at hm
    by_cases q : m = qM g
    · subst q
      have f1 : qP (manG x y r g) (qM g) = x + 8 * y := by unfold qP; rw [manG_p, cl (by omega)]
      have f2 : qL (manG x y r g) (qM g) = r := by unfold qL; rw [manG_l, cl (by omega)]
      rw [f1, f2, manG_p, manG_l, man_st]
      refine ⟨⟨rfl, ⟨?_, ?_⟩, hs⟩, rfl, hr⟩
      · rw [e1]; omega
      · rw [e2]; omega
    · obtain ⟨⟨a1, a2, a3⟩, a4, a5⟩ := p7 m (by omega)
      have f1 : qP (manG x y r g) m = qP g m := by unfold qP; rw [manG_n (by omega) (by omega) (by omega)]
      have f2 : qL (manG x y r g) m = qL g m := by unfold qL; rw [manG_n (by omega) (by omega) (by omega)]
      rw [f1, f2, man_st, manG_n (by omega) (by omega) (by omega), manG_n (by omega) (by omega) (by omega)]
      exact ⟨⟨a1, inG_mono (by omega) (by omega) a2, a3⟩, a4, a5⟩
/-! the start, the end -/
def gS (z : Nat → Int32) : Nat → Int32 := fun k => if k < 194 then (if 110 ≤ k ∧ (k - 110) % 21 = 0 then mO else nI 0) else z k
set_option maxRecDepth 100000 in
set_option maxHeartbeats 400000 in
theorem gS_0 {z : Nat → Int32} {k : Nat} (h : k < 110) : gS z k = nI 0 := by unfold gS; rw [if_pos (by omega), if_neg (by omega)]
set_option maxRecDepth 100000 in
set_option maxHeartbeats 400000 in
theorem gS_q (z : Nat → Int32) : qW (gS z) = 0 ∧ qH (gS z) = 0 ∧ qM (gS z) = 0 ∧ qS (gS z) = 0 := by
  unfold qW qH qM qS
  rw [gS_0 (by omega), gS_0 (by omega), gS_0 (by omega), gS_0 (by omega)]
  exact ⟨cl (by omega), cl (by omega), cl (by omega), cl (by omega)⟩
set_option maxRecDepth 100000 in
set_option maxHeartbeats 400000 in
theorem PW_gS (z : Nat → Int32) : PW (gS z) := by
  obtain ⟨e1, e2, e3, e4⟩ := gS_q z
  refine ⟨⟨by rw [e1, gS_0 (by omega)], by omega⟩, ⟨by rw [e2, gS_0 (by omega)], by omega⟩, ⟨by rw [e3, gS_0 (by omega)], by omega⟩, ⟨by rw [e4, gS_0 (by omega)], by omega⟩, by omega, fun b hb => ?_, fun b hb => Or.inl (gS_0 (by omega)), fun m hm => by omega, fun m hm => ?_⟩
  · have := hb.2
    omega
  · unfold gS
    rw [if_pos (by omega), if_pos (by omega)]
set_option maxRecDepth 100000 in
set_option maxHeartbeats 400000 in
theorem PW_wf {g : Nat → Int32} (H : PW g) (hm : 0 < qM g) (hh : 0 < qH g) : wfG g := by
  obtain ⟨p0, p1, p3, p2, p4, p5, p6, p7, p8⟩ := H
  refine ⟨p0, p1, p3, fun z => by omega, fun _ => by omega, p5, p6, p7, fun m hm => Or.inl (p8 m (by omega)), fun m n hm hn hne b hb => ?_⟩
  rw [qY_no (p8 m (by omega))] at hb
  cases hb
