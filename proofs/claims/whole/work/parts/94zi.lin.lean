/-! what a line leaves: pure -/
set_option maxRecDepth 100000 in
set_option maxHeartbeats 400000 in
theorem ceP_r {T : Nat → Nat} {n s : Nat} {g : Nat → Int32} (z : ceP T n s g) (H : PW g) : s < tE T n s ∧ tE T n s - s ≤ 7 ∧ (qH g = 0 ∨ tE T n s - s = qW g) ∧ ∀ j, s ≤ j → j < tE T n s → ceB (T j) := by
  obtain ⟨z1, z2, z3⟩ := z
  have l1 := tT_1 z1
  have w7 := H.1.2
  by_cases q3 : qH g = 0
  · rw [if_pos q3] at z2; exact ⟨l1.2.1, z2, Or.inl q3, z3⟩
  · rw [if_neg q3] at z2; exact ⟨l1.2.1, by omega, Or.inr z2, z3⟩
set_option maxRecDepth 100000 in
set_option maxHeartbeats 400000 in
theorem rowQ_r {T : Nat → Nat} {n s : Nat} {g : Nat → Int32} {a : Nat × (Nat → Int32)} (e : rowQ T n s g = .inr a) (H : PW g) (h6 : qH g < 6) (hs : s ≤ n) : PW a.2 ∧ a.1 ≤ n ∧ qH a.2 = qH g + 1 ∧ qM a.2 = qM g ∧ qS a.2 = qS g := by
  unfold rowQ at e
  by_cases q : ceP T n s g
  · rw [br_pos q] at e
    obtain rfl := Sum.inr.inj e
    obtain ⟨c1, c2, c3, c4⟩ := ceP_r q H
    exact ⟨PW_row H c1 c2 h6 c3 c4, nxt_le hs, rowG_h (by omega), rowG_m, rowG_s⟩
  · rw [br_neg q] at e; cases e
set_option maxRecDepth 100000 in
set_option maxHeartbeats 400000 in
theorem num_le {T : Nat → Nat} {n m s : Nat} {a : Nat × Nat} (e : numP T n m s = .inr a) (hs : s ≤ n) : a.1 ≤ m ∧ a.2 ≤ n := by
  obtain ⟨-, h2, rfl⟩ := num_r e
  exact ⟨h2, nxt_le hs⟩
set_option maxRecDepth 100000 in
set_option maxHeartbeats 400000 in
theorem stoQ_r {T : Nat → Nat} {n s : Nat} {g : Nat → Int32} {a : Nat × (Nat → Int32)} (e : stoQ T n s g = .inr a) (H : PW g) (hm : qM g = 0) (h8 : qS g < 8) (hs : s ≤ n) : PW a.2 ∧ a.1 ≤ n ∧ qS a.2 = qS g + 1 ∧ qM a.2 = 0 ∧ qH a.2 = qH g := by
  unfold stoQ at e
  rcases e1 : numP T n (qW g) s with f | x
  · rw [e1, sbd_l] at e; cases e
  · rw [e1, sbd_r] at e
    have l1 := num_le e1 hs
    rcases e2 : numP T n (qH g) x.2 with f | y
    · rw [e2, sbd_l] at e; cases e
    · rw [e2, sbd_r] at e
      have l2 := num_le e2 l1.2
      obtain rfl := Sum.inr.inj e
      obtain ⟨-, q2, q3⟩ := sto_q (x := x.1) (y := y.1) (g := g)
      exact ⟨PW_sto H hm l1.1 l2.1 h8, l2.2, sto_s h8, q3.trans hm, q2⟩
set_option maxRecDepth 100000 in
set_option maxHeartbeats 400000 in
theorem manQ_r {T : Nat → Nat} {n s : Nat} {g : Nat → Int32} {a : Nat × (Nat → Int32)} (e : manQ T n s g = .inr a) (H : PW g) (h4 : qM g < 4) (hs : s ≤ n) : PW a.2 ∧ a.1 ≤ n ∧ qM a.2 = qM g + 1 ∧ qH a.2 = qH g := by
  unfold manQ at e
  rcases e1 : numP T n (qW g) s with f | x
  · rw [e1, sbd_l] at e; cases e
  · rw [e1, sbd_r] at e
    have l1 := num_le e1 hs
    by_cases q : tT T n x.2 = 2 ∧ nuV T n x.2 ≤ qH g ∧ qSt g (x.1 + 8 * nuV T n x.2) = true
    · rw [br_pos q] at e; cases e
    · rw [br_neg q] at e
      rcases e2 : numP T n (qH g) x.2 with f | y
      · rw [e2, sbd_l] at e; cases e
      · rw [e2, sbd_r] at e
        have l2 := num_le e2 l1.2
        rcases e3 : numP T n 12 y.2 with f | c
        · rw [e3, sbd_l] at e; cases e
        · rw [e3, sbd_r] at e
          have l3 := num_le e3 l2.2
          obtain rfl := Sum.inr.inj e
          have ns : qSt g (x.1 + 8 * y.1) = false := by
            obtain ⟨n1, n2, n3⟩ := num_r e2
            cases z : qSt g (x.1 + 8 * y.1) with
            | false => rfl
            | true => exact absurd ⟨n1, n2, by rw [n3] at z; exact z⟩ q
          exact ⟨PW_man H l1.1 l2.1 l3.1 ns h4, l3.2, man_m h4, man_q.2.1⟩
set_option maxRecDepth 100000 in
set_option maxHeartbeats 400000 in
theorem linP_r {T : Nat → Nat} {n room s : Nat} {cnt : (Nat → Int32) → Nat} {Q : Nat → (Nat → Int32) → Sum (Nat × Nat) (Nat × (Nat → Int32))} {g : Nat → Int32} {a : Nat × (Nat → Int32)} (e : linP T n room cnt Q s g = .inr a) : cnt g < room ∧ ∃ b, Q (nxt T n s) g = .inr b ∧ sgnP T n b.1 = .inr a.1 ∧ a.2 = b.2 := by
  unfold linP at e
  by_cases q : room ≤ cnt g
  · rw [br_pos q] at e; cases e
  · rw [br_neg q] at e
    refine ⟨by omega, ?_⟩
    rcases e1 : Q (nxt T n s) g with f | b
    · rw [e1, sbd_l] at e; cases e
    · rw [e1, sbd_r] at e
      rcases e2 : sgnP T n b.1 with f | s'
      · rw [e2, sbd_l] at e; cases e
      · rw [e2, sbd_r] at e
        obtain rfl := Sum.inr.inj e
        exact ⟨b, rfl, e2, rfl⟩
set_option maxRecDepth 100000 in
set_option maxHeartbeats 400000 in
theorem lopP_s (T : Nat → Nat) (n i : Nat) (P : Nat → (Nat → Int32) → Sum (Nat × Nat) (Nat × (Nat → Int32))) (k s : Nat) (g : Nat → Int32) : lopP T n i P (k + 1) s g = br (isWd T n s i) (sbd (P s g) fun a => lopP T n i P k a.1 a.2) (.inr (s, g)) := rfl
set_option maxRecDepth 100000 in
set_option maxHeartbeats 400000 in
theorem lopP_r {T : Nat → Nat} {n i k s : Nat} {P : Nat → (Nat → Int32) → Sum (Nat × Nat) (Nat × (Nat → Int32))} {g : Nat → Int32} {a : Nat × (Nat → Int32)} (e : lopP T n i P (k + 1) s g = .inr a) : (¬ isWd T n s i ∧ a = (s, g)) ∨ (isWd T n s i ∧ ∃ b, P s g = .inr b ∧ lopP T n i P k b.1 b.2 = .inr a) := by
  rw [lopP_s] at e
  by_cases q : isWd T n s i
  · rw [br_pos q] at e
    rcases e1 : P s g with f | b
    · rw [e1, sbd_l] at e; cases e
    · rw [e1, sbd_r] at e
      exact Or.inr ⟨q, b, rfl, e⟩
  · rw [br_neg q] at e
    exact Or.inl ⟨q, (Sum.inr.inj e).symm⟩
set_option maxRecDepth 100000 in
set_option maxHeartbeats 400000 in
theorem rows_r {T : Nat → Nat} {n : Nat} : ∀ {k s : Nat} {g : Nat → Int32} {a : Nat × (Nat → Int32)}, rowsP T n k s g = .inr a → PW g → qM g = 0 → qS g = 0 → s ≤ n → qH g + k = 7 → PW a.2 ∧ a.1 ≤ n ∧ qM a.2 = 0 ∧ qS a.2 = 0 ∧ qH g ≤ qH a.2 ∧ (isWd T n s 0 → 0 < qH a.2) := by
  intro k
  induction k with
  | zero => intro s g a e H hm hq hs hk; have := H.2.1.2; omega
  | succ k ih =>
    intro s g a e H hm hq hs hk
    rcases lopP_r e with ⟨q, rfl⟩ | ⟨q, b, e1, e2⟩
    · exact ⟨H, hs, hm, hq, Nat.le_refl _, fun z => absurd z q⟩
    · obtain ⟨l1, c, e3, e4, e5⟩ := linP_r e1
      obtain ⟨r1, r2, r3, r4, r5⟩ := rowQ_r e3 H l1 (nxt_le hs)
      rw [← e5] at r1 r3 r4 r5
      obtain ⟨i1, i2, i3, i4, i5, -⟩ := ih e2 r1 (r4.trans hm) (r5.trans hq) (sgn_le r2 e4) (by omega)
      exact ⟨i1, i2, i3, i4, by omega, fun _ => by omega⟩
set_option maxRecDepth 100000 in
set_option maxHeartbeats 400000 in
theorem stos_r {T : Nat → Nat} {n : Nat} : ∀ {k s : Nat} {g : Nat → Int32} {a : Nat × (Nat → Int32)}, stosP T n k s g = .inr a → PW g → qM g = 0 → s ≤ n → qS g + k = 9 → PW a.2 ∧ a.1 ≤ n ∧ qM a.2 = 0 ∧ qH a.2 = qH g := by
  intro k
  induction k with
  | zero => intro s g a e H hm hs hk; have := H.2.2.2.1.2; omega
  | succ k ih =>
    intro s g a e H hm hs hk
    rcases lopP_r e with ⟨q, rfl⟩ | ⟨q, b, e1, e2⟩
    · exact ⟨H, hs, hm, rfl⟩
    · obtain ⟨l1, c, e3, e4, e5⟩ := linP_r e1
      obtain ⟨r1, r2, r3, r4, r5⟩ := stoQ_r e3 H hm l1 (nxt_le hs)
      rw [← e5] at r1 r3 r4 r5
      obtain ⟨i1, i2, i3, i4⟩ := ih e2 r1 r4 (sgn_le r2 e4) (by omega)
      exact ⟨i1, i2, i3, i4.trans r5⟩
set_option maxRecDepth 100000 in
set_option maxHeartbeats 400000 in
theorem mens_r {T : Nat → Nat} {n : Nat} : ∀ {k s : Nat} {g : Nat → Int32} {a : Nat × (Nat → Int32)}, mensP T n k s g = .inr a → PW g → s ≤ n → qM g + k = 5 → PW a.2 ∧ a.1 ≤ n ∧ qM g ≤ qM a.2 ∧ qH a.2 = qH g ∧ (isWd T n s 2 → 0 < qM a.2) := by
  intro k
  induction k with
  | zero => intro s g a e H hs hk; have := H.2.2.1.2; omega
  | succ k ih =>
    intro s g a e H hs hk
    rcases lopP_r e with ⟨q, rfl⟩ | ⟨q, b, e1, e2⟩
    · exact ⟨H, hs, Nat.le_refl _, rfl, fun z => absurd z q⟩
    · obtain ⟨l1, c, e3, e4, e5⟩ := linP_r e1
      obtain ⟨r1, r2, r3, r5⟩ := manQ_r e3 H l1 (nxt_le hs)
      rw [← e5] at r1 r3 r5
      obtain ⟨i1, i2, i3, i4, -⟩ := ih e2 r1 (sgn_le r2 e4) (by omega)
      exact ⟨i1, i2, by omega, i4.trans r5, fun _ => by omega⟩
set_option maxRecDepth 100000 in
set_option maxHeartbeats 400000 in
theorem men_r {T : Nat → Nat} {n k s : Nat} {g : Nat → Int32} {a : Nat × (Nat → Int32)} (e : menP T n k s g = .inr a) : mensP T n k s g = .inr a ∧ tT T n a.1 = 0 := by
  unfold menP at e
  rcases e1 : mensP T n k s g with f | b
  · rw [e1, sbd_l] at e; cases e
  · rw [e1, sbd_r] at e
    by_cases q : tT T n b.1 = 0
    · rw [br_pos q] at e
      obtain rfl := Sum.inr.inj e
      exact ⟨rfl, q⟩
    · rw [br_neg q] at e; cases e
