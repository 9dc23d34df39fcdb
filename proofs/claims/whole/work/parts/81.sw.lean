/-! the switches, value by value -/
theorem t3_1 (d : Nat) (ls st : List Value) (S : aS) (h : aH) : ev d 3 4 ls (.int (nI 1) :: st) S h = ev d 3 72 ls st S h := (u3_4 d ls (nI 1) st S h).trans (br_neg (by decide) _ _)
theorem t3_2 (d : Nat) (ls st : List Value) (S : aS) (h : aH) : ev d 3 4 ls (.int (nI 2) :: st) S h = ev d 3 77 ls st S h := (u3_4 d ls (nI 2) st S h).trans (br_neg (by decide) _ _)
theorem t3_3 (d : Nat) (ls st : List Value) (S : aS) (h : aH) : ev d 3 4 ls (.int (nI 3) :: st) S h = ev d 3 67 ls st S h := (u3_4 d ls (nI 3) st S h).trans (br_neg (by decide) _ _)
theorem t3_4 (d : Nat) (ls st : List Value) (S : aS) (h : aH) : ev d 3 4 ls (.int (nI 4) :: st) S h = ev d 3 52 ls st S h := (u3_4 d ls (nI 4) st S h).trans (br_neg (by decide) _ _)
theorem t3_5 (d : Nat) (ls st : List Value) (S : aS) (h : aH) : ev d 3 4 ls (.int (nI 5) :: st) S h = ev d 3 40 ls st S h := (u3_4 d ls (nI 5) st S h).trans (br_neg (by decide) _ _)
theorem t3_d {x : Int32} (hx : x < nI 1 ∨ (¬ x < nI 1 ∧ nI 6 ≤ x)) (d : Nat) (ls st : List Value) (S : aS) (h : aH) : ev d 3 4 ls (.int x :: st) S h = ev d 3 77 ls st S h := (u3_4 d ls x st S h).trans (br_pos (by
  rcases hx with hx | ⟨-, hx⟩
  · rw [Int32.lt_iff_toInt_lt, show (nI 1).toInt = 1 from rfl] at hx; exact Or.inl hx
  · rw [Int32.le_iff_toInt_le, show (nI 6).toInt = 6 from rfl] at hx; exact Or.inr (by omega)) _ _)
theorem t9_2 (d : Nat) (ls st : List Value) (S : aS) (h : aH) : ev d 9 4 ls (.int (nI 2) :: st) S h = ev d 9 67 ls st S h := (u9_4 d ls (nI 2) st S h).trans (br_neg (by decide) _ _)
theorem t9_3 (d : Nat) (ls st : List Value) (S : aS) (h : aH) : ev d 9 4 ls (.int (nI 3) :: st) S h = ev d 9 36 ls st S h := (u9_4 d ls (nI 3) st S h).trans (br_neg (by decide) _ _)
theorem t9_4 (d : Nat) (ls st : List Value) (S : aS) (h : aH) : ev d 9 4 ls (.int (nI 4) :: st) S h = ev d 9 55 ls st S h := (u9_4 d ls (nI 4) st S h).trans (br_neg (by decide) _ _)
theorem t9_5 (d : Nat) (ls st : List Value) (S : aS) (h : aH) : ev d 9 4 ls (.int (nI 5) :: st) S h = ev d 9 36 ls st S h := (u9_4 d ls (nI 5) st S h).trans (br_neg (by decide) _ _)
theorem t9_d {x : Int32} (hx : x < nI 2 ∨ (¬ x < nI 2 ∧ nI 6 ≤ x)) (d : Nat) (ls st : List Value) (S : aS) (h : aH) : ev d 9 4 ls (.int x :: st) S h = ev d 9 89 ls st S h := (u9_4 d ls x st S h).trans (br_pos (by
  rcases hx with hx | ⟨-, hx⟩
  · rw [Int32.lt_iff_toInt_lt, show (nI 2).toInt = 2 from rfl] at hx; exact Or.inl hx
  · rw [Int32.le_iff_toInt_le, show (nI 6).toInt = 6 from rfl] at hx; exact Or.inr (by omega)) _ _)
theorem t107_0 (d : Nat) (ls st : List Value) (S : aS) (h : aH) : ev d 107 1 ls (.int (nI 0) :: st) S h = ev d 107 44 ls st S h := (u107_1 d ls (nI 0) st S h).trans (br_neg (by decide) _ _)
theorem t107_1 (d : Nat) (ls st : List Value) (S : aS) (h : aH) : ev d 107 1 ls (.int (nI 1) :: st) S h = ev d 107 49 ls st S h := (u107_1 d ls (nI 1) st S h).trans (br_neg (by decide) _ _)
theorem t107_2 (d : Nat) (ls st : List Value) (S : aS) (h : aH) : ev d 107 1 ls (.int (nI 2) :: st) S h = ev d 107 57 ls st S h := (u107_1 d ls (nI 2) st S h).trans (br_neg (by decide) _ _)
theorem t107_3 (d : Nat) (ls st : List Value) (S : aS) (h : aH) : ev d 107 1 ls (.int (nI 3) :: st) S h = ev d 107 65 ls st S h := (u107_1 d ls (nI 3) st S h).trans (br_neg (by decide) _ _)
theorem t107_4 (d : Nat) (ls st : List Value) (S : aS) (h : aH) : ev d 107 1 ls (.int (nI 4) :: st) S h = ev d 107 76 ls st S h := (u107_1 d ls (nI 4) st S h).trans (br_neg (by decide) _ _)
theorem t107_5 (d : Nat) (ls st : List Value) (S : aS) (h : aH) : ev d 107 1 ls (.int (nI 5) :: st) S h = ev d 107 84 ls st S h := (u107_1 d ls (nI 5) st S h).trans (br_neg (by decide) _ _)
theorem t107_6 (d : Nat) (ls st : List Value) (S : aS) (h : aH) : ev d 107 1 ls (.int (nI 6) :: st) S h = ev d 107 92 ls st S h := (u107_1 d ls (nI 6) st S h).trans (br_neg (by decide) _ _)
theorem t107_d {x : Int32} (hx : x < nI 0 ∨ (¬ x < nI 0 ∧ nI 7 ≤ x)) (d : Nat) (ls st : List Value) (S : aS) (h : aH) : ev d 107 1 ls (.int x :: st) S h = ev d 107 103 ls st S h := (u107_1 d ls x st S h).trans (br_pos (by
  rcases hx with hx | ⟨-, hx⟩
  · rw [Int32.lt_iff_toInt_lt, show (nI 0).toInt = 0 from rfl] at hx; exact Or.inl hx
  · rw [Int32.le_iff_toInt_le, show (nI 7).toInt = 7 from rfl] at hx; exact Or.inr (by omega)) _ _)
theorem t129_3 (d : Nat) (ls st : List Value) (S : aS) (h : aH) : ev d 129 1 ls (.int (nI 3) :: st) S h = ev d 129 30 ls st S h := (u129_1 d ls (nI 3) st S h).trans (br_neg (by decide) _ _)
theorem t129_4 (d : Nat) (ls st : List Value) (S : aS) (h : aH) : ev d 129 1 ls (.int (nI 4) :: st) S h = ev d 129 30 ls st S h := (u129_1 d ls (nI 4) st S h).trans (br_neg (by decide) _ _)
theorem t129_5 (d : Nat) (ls st : List Value) (S : aS) (h : aH) : ev d 129 1 ls (.int (nI 5) :: st) S h = ev d 129 28 ls st S h := (u129_1 d ls (nI 5) st S h).trans (br_neg (by decide) _ _)
theorem t129_d {x : Int32} (hx : x < nI 3 ∨ (¬ x < nI 3 ∧ nI 6 ≤ x)) (d : Nat) (ls st : List Value) (S : aS) (h : aH) : ev d 129 1 ls (.int x :: st) S h = ev d 129 32 ls st S h := (u129_1 d ls x st S h).trans (br_pos (by
  rcases hx with hx | ⟨-, hx⟩
  · rw [Int32.lt_iff_toInt_lt, show (nI 3).toInt = 3 from rfl] at hx; exact Or.inl hx
  · rw [Int32.le_iff_toInt_le, show (nI 6).toInt = 6 from rfl] at hx; exact Or.inr (by omega)) _ _)
theorem t208_0 (d : Nat) (ls st : List Value) (S : aS) (h : aH) : ev d 208 8 ls (.int (nI 0) :: st) S h = ev d 208 52 ls st S h := (u208_8 d ls (nI 0) st S h).trans (br_neg (by decide) _ _)
theorem t208_1 (d : Nat) (ls st : List Value) (S : aS) (h : aH) : ev d 208 8 ls (.int (nI 1) :: st) S h = ev d 208 85 ls st S h := (u208_8 d ls (nI 1) st S h).trans (br_neg (by decide) _ _)
theorem t208_2 (d : Nat) (ls st : List Value) (S : aS) (h : aH) : ev d 208 8 ls (.int (nI 2) :: st) S h = ev d 208 85 ls st S h := (u208_8 d ls (nI 2) st S h).trans (br_neg (by decide) _ _)
theorem t208_3 (d : Nat) (ls st : List Value) (S : aS) (h : aH) : ev d 208 8 ls (.int (nI 3) :: st) S h = ev d 208 94 ls st S h := (u208_8 d ls (nI 3) st S h).trans (br_neg (by decide) _ _)
theorem t208_4 (d : Nat) (ls st : List Value) (S : aS) (h : aH) : ev d 208 8 ls (.int (nI 4) :: st) S h = ev d 208 85 ls st S h := (u208_8 d ls (nI 4) st S h).trans (br_neg (by decide) _ _)
theorem t208_5 (d : Nat) (ls st : List Value) (S : aS) (h : aH) : ev d 208 8 ls (.int (nI 5) :: st) S h = ev d 208 122 ls st S h := (u208_8 d ls (nI 5) st S h).trans (br_neg (by decide) _ _)
theorem t208_6 (d : Nat) (ls st : List Value) (S : aS) (h : aH) : ev d 208 8 ls (.int (nI 6) :: st) S h = ev d 208 158 ls st S h := (u208_8 d ls (nI 6) st S h).trans (br_neg (by decide) _ _)
theorem t208_d {x : Int32} (hx : x < nI 0 ∨ (¬ x < nI 0 ∧ nI 7 ≤ x)) (d : Nat) (ls st : List Value) (S : aS) (h : aH) : ev d 208 8 ls (.int x :: st) S h = ev d 208 163 ls st S h := (u208_8 d ls x st S h).trans (br_pos (by
  rcases hx with hx | ⟨-, hx⟩
  · rw [Int32.lt_iff_toInt_lt, show (nI 0).toInt = 0 from rfl] at hx; exact Or.inl hx
  · rw [Int32.le_iff_toInt_le, show (nI 7).toInt = 7 from rfl] at hx; exact Or.inr (by omega)) _ _)
