/-! a name is a line's first word on both sides -/
def namC (i : Nat) : Nat := if i = 0 then 7499639 else if i = 1 then 495874698853 else 7168366
set_option maxRecDepth 100000 in
set_option maxHeartbeats 400000 in
theorem nam_c : namC 0 = 0x726f77 ∧ namC 1 = 0x73746f6e65 ∧ namC 2 = 0x6d616e := by decide
set_option maxRecDepth 100000 in
set_option maxHeartbeats 400000 in
theorem nmv_S (T : Nat → Nat) (s k : Nat) : nmv T s (k + 1) = 256 * nmv T s k + T (s + k) := rfl
set_option maxRecDepth 100000 in
set_option maxHeartbeats 400000 in
theorem nmv_0 (T : Nat → Nat) (s : Nat) : nmv T s 0 = 0 := rfl
set_option maxRecDepth 100000 in
set_option maxHeartbeats 400000 in
theorem nm3 {T : Nat → Nat} {s a b c : Nat} (hb : ∀ j, j < 3 → 97 ≤ T (s + j) ∧ T (s + j) ≤ 122) (ha : a < 256) (hb' : b < 256) (hc : c < 256) : nmv T s 3 = 256 * (256 * a + b) + c ↔ (T (s + 0) = a ∧ T (s + 1) = b ∧ T (s + 2) = c) := by
  have h0 := hb 0 (by omega)
  have h1 := hb 1 (by omega)
  have h2 := hb 2 (by omega)
  rw [show (3 : Nat) = 2 + 1 from rfl, nmv_S, show (2 : Nat) = 1 + 1 from rfl, nmv_S, show (1 : Nat) = 0 + 1 from rfl, nmv_S, nmv_0]
  simp only [Nat.zero_add, Nat.reduceAdd] at *
  generalize T (s + 0) = x0 at *
  generalize T (s + 1) = x1 at *
  generalize T (s + 2) = x2 at *
  constructor
  · intro h
    refine ⟨?_, ?_, ?_⟩ <;> omega
  · rintro ⟨rfl, rfl, rfl⟩
    omega
set_option maxRecDepth 100000 in
set_option maxHeartbeats 400000 in
theorem nm5 {T : Nat → Nat} {s : Nat} (hb : ∀ j, j < 5 → 97 ≤ T (s + j) ∧ T (s + j) ≤ 122) : nmv T s 5 = 495874698853 ↔ (T (s + 0) = 115 ∧ T (s + 1) = 116 ∧ T (s + 2) = 111 ∧ T (s + 3) = 110 ∧ T (s + 4) = 101) := by
  have h0 := hb 0 (by omega)
  have h1 := hb 1 (by omega)
  have h2 := hb 2 (by omega)
  have h3 := hb 3 (by omega)
  have h4 := hb 4 (by omega)
  rw [show (5 : Nat) = 4 + 1 from rfl, nmv_S, show (4 : Nat) = 3 + 1 from rfl, nmv_S, show (3 : Nat) = 2 + 1 from rfl, nmv_S, show (2 : Nat) = 1 + 1 from rfl, nmv_S, show (1 : Nat) = 0 + 1 from rfl, nmv_S, nmv_0]
  simp only [Nat.zero_add, Nat.reduceAdd] at *
  generalize T (s + 0) = x0 at *
  generalize T (s + 1) = x1 at *
  generalize T (s + 2) = x2 at *
  generalize T (s + 3) = x3 at *
  generalize T (s + 4) = x4 at *
  constructor
  · intro h
    refine ⟨?_, ?_, ?_, ?_, ?_⟩ <;> omega
  · rintro ⟨rfl, rfl, rfl, rfl, rfl⟩
    omega
set_option maxRecDepth 100000 in
set_option maxHeartbeats 400000 in
theorem nmv_ge {T : Nat → Nat} {s : Nat} : ∀ k, (∀ j, j < k + 1 → 97 ≤ T (s + j)) → 97 * 256 ^ k ≤ nmv T s (k + 1)
  | 0, h => by
    have := h 0 (by omega)
    rw [nmv_S, nmv_0]
    omega
  | k + 1, h => by
    have := nmv_ge (T := T) (s := s) k (fun j hj => h j (by omega))
    rw [nmv_S, Nat.pow_succ]
    omega
set_option maxRecDepth 100000 in
set_option maxHeartbeats 400000 in
theorem nm_len {T : Nat → Nat} {s k m v : Nat} (hb : ∀ j, j < k → 97 ≤ T (s + j) ∧ T (s + j) ≤ 122) (h0 : 0 < k) (hv : nmv T s k = v) (h1 : 97 * 256 ^ m ≤ v) (h2 : v < 256 ^ (m + 1)) : k = m + 1 := by
  obtain ⟨k', rfl⟩ : ∃ k', k = k' + 1 := ⟨k - 1, by omega⟩
  have g1 := nmv_ge (T := T) (s := s) k' (fun j hj => (hb j hj).1)
  have g2 := nmv_lt (T := T) (s := s) (k' + 1) (fun j hj => by have := (hb j hj).2; omega)
  rw [hv] at g1 g2
  rcases Nat.lt_trichotomy k' m with q | q | q
  · have : 256 ^ (k' + 1) ≤ 256 ^ m := Nat.pow_le_pow_right (by omega) (by omega)
    omega
  · omega
  · have : 256 ^ (m + 1) ≤ 256 ^ k' := Nat.pow_le_pow_right (by omega) (by omega)
    omega
set_option maxRecDepth 100000 in
set_option maxHeartbeats 400000 in
theorem na_isW {T : Nat → Nat} {s e t i : Nat} (hi : i < 3) (hl : t = 1 → s < e ∧ ∀ j, s ≤ j → j < e → 97 ≤ T j ∧ T j ≤ 122) : naT T s e t = namC i ↔ isW T s e t i := by
  unfold naT isW
  have w5 := wd_5 (i := i)
  have np : 0 < namC i := by unfold namC; split <;> (try split) <;> omega
  by_cases q : t = 1 ∧ e - s < 8
  · rw [if_pos q]
    obtain ⟨rfl, q⟩ := q
    obtain ⟨hse, hb⟩ := hl rfl
    have hb' : ∀ j, j < e - s → 97 ≤ T (s + j) ∧ T (s + j) ≤ 122 := fun j hj => hb (s + j) (by omega) (by omega)
    generalize hk : e - s = k at *
    rcases (show i = 0 ∨ i = 1 ∨ i = 2 by omega) with rfl | rfl | rfl
    · constructor
      · intro h
        have : k = 2 + 1 := nm_len hb' (by omega) h (by decide) (by decide)
        subst this
        obtain ⟨a, b, c⟩ := (nm3 (a := 114) (b := 111) (c := 119) hb' (by omega) (by omega) (by omega)).mp h
        refine ⟨rfl, rfl, fun j hj => ?_⟩
        replace hj : j < 3 := hj
        rcases (show j = 0 ∨ j = 1 ∨ j = 2 by omega) with rfl | rfl | rfl
        · exact a
        · exact b
        · exact c
      · rintro ⟨-, h1, h2⟩
        replace h1 : k = 3 := h1
        subst h1
        exact (nm3 (a := 114) (b := 111) (c := 119) hb' (by omega) (by omega) (by omega)).mpr ⟨h2 0 (by decide), h2 1 (by decide), h2 2 (by decide)⟩
    · constructor
      · intro h
        have : k = 4 + 1 := nm_len hb' (by omega) h (by decide) (by decide)
        subst this
        obtain ⟨a, b, c, d, f⟩ := (nm5 hb').mp h
        refine ⟨rfl, rfl, fun j hj => ?_⟩
        replace hj : j < 5 := hj
        rcases (show j = 0 ∨ j = 1 ∨ j = 2 ∨ j = 3 ∨ j = 4 by omega) with rfl | rfl | rfl | rfl | rfl
        · exact a
        · exact b
        · exact c
        · exact d
        · exact f
      · rintro ⟨-, h1, h2⟩
        replace h1 : k = 5 := h1
        subst h1
        exact (nm5 hb').mpr ⟨h2 0 (by decide), h2 1 (by decide), h2 2 (by decide), h2 3 (by decide), h2 4 (by decide)⟩
    · constructor
      · intro h
        have : k = 2 + 1 := nm_len hb' (by omega) h (by decide) (by decide)
        subst this
        obtain ⟨a, b, c⟩ := (nm3 (a := 109) (b := 97) (c := 110) hb' (by omega) (by omega) (by omega)).mp h
        refine ⟨rfl, rfl, fun j hj => ?_⟩
        replace hj : j < 3 := hj
        rcases (show j = 0 ∨ j = 1 ∨ j = 2 by omega) with rfl | rfl | rfl
        · exact a
        · exact b
        · exact c
      · rintro ⟨-, h1, h2⟩
        replace h1 : k = 3 := h1
        subst h1
        exact (nm3 (a := 109) (b := 97) (c := 110) hb' (by omega) (by omega) (by omega)).mpr ⟨h2 0 (by decide), h2 1 (by decide), h2 2 (by decide)⟩
  · rw [if_neg q]
    constructor
    · intro h; omega
    · rintro ⟨h1, h2, -⟩
      exact absurd ⟨h1, by omega⟩ q
