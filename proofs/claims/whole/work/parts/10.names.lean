/-! names: printed by program out of the claim's own lists -/
def tg : List Cond := tb.filter goodWord
theorem tg_of {args : Array Value} {s : State} (h : ∀ w ∈ lw_tbl, w.before args s = true) : ∀ w ∈ tg, w.before args s = true := fun w hw => tb_of h w (List.mem_filter.mp hw).1
theorem tg_in {w : Cond} (h : w ∈ tb) (g : goodWord w = true) : w ∈ tg := List.mem_filter.mpr ⟨h, g⟩
theorem kt {w : Cond} (i : Nat) (h : tables_1[i]? = some w) (g : goodWord w = true) : w ∈ tg := tg_in (List.mem_append_right _ (List.mem_append_right _ (List.mem_of_getElem? h))) g
theorem kn {w : Cond} (i : Nat) (h : tables_1[i]? = some w) : w ∈ tb := List.mem_append_right _ (List.mem_append_right _ (List.mem_of_getElem? h))
theorem ks {q : MethodName × Nat} (h : q ∈ lw_privs) : Cond.selects q.1.cls q.1 q.1 ∈ tg := tg_in (List.mem_append_right _ (List.mem_append_left _ (List.mem_map.mpr ⟨q, h, rfl⟩))) rfl
theorem tg_good : ∀ w ∈ tg, (w.onTables && w.keeps) = true ∨ ∃ ty, w = .arrayClass ty := fun w h => good_of_word (List.mem_filter.mp h).2
def RC0 : String := "RopeRound$Asker"
def TC0 : u_T := fun k => match k with
  | 0 => ("RopeRound$Asker", "notes", "[I", true)
  | 1 => ("RopeRound$Asker", "noted", "I", false)
  | 2 => ("RopeRound$Asker", "cell", "I", false)
  | 3 => ("RopeRound$Asker", "worth", "I", false)
  | 4 => ("RopeRound$Asker", "kind", "I", false)
  | _ => ("RopeRound$Asker", "ringMan", "I", false)
def tyC0 : Nat → FieldType := fun k => match k with
  | 0 => .array .int
  | 1 => .int
  | 2 => .int
  | 3 => .int
  | 4 => .int
  | _ => .int
def RC1 : String := "RopeRound$Best"
def TC1 : u_T := fun k => match k with
  | 0 => ("RopeRound$Walk", "ground", "LRopeRound$Ground;", false)
  | 1 => ("RopeRound$Walk", "home", "I", false)
  | 2 => ("RopeRound$Walk", "limit", "I", false)
  | 3 => ("RopeRound$Best", "worths", "[I", true)
  | 4 => ("RopeRound$Best", "steps", "[I", true)
  | 5 => ("RopeRound$Best", "ways", "[J", true)
  | 6 => ("RopeRound$Best", "known", "J", false)
  | _ => ("RopeRound$Best", "base", "I", false)
def tyC1 : Nat → FieldType := fun k => match k with
  | 0 => .object "RopeRound$Ground"
  | 1 => .int
  | 2 => .int
  | 3 => .array .int
  | 4 => .array .int
  | 5 => .array .long
  | 6 => .long
  | _ => .int
def RC2 : String := "RopeRound$Finder"
def TC2 : u_T := fun k => match k with
  | 0 => ("RopeRound$Walk", "ground", "LRopeRound$Ground;", false)
  | 1 => ("RopeRound$Walk", "home", "I", false)
  | 2 => ("RopeRound$Walk", "limit", "I", false)
  | 3 => ("RopeRound$Finder", "toldCorners", "J", false)
  | 4 => ("RopeRound$Finder", "toldCells", "J", false)
  | 5 => ("RopeRound$Finder", "rope", "I", false)
  | _ => ("RopeRound$Finder", "fitting", "I", false)
def tyC2 : Nat → FieldType := fun k => match k with
  | 0 => .object "RopeRound$Ground"
  | 1 => .int
  | 2 => .int
  | 3 => .long
  | 4 => .long
  | 5 => .int
  | _ => .int
def RC3 : String := "RopeRound$Ground"
def TC3 : u_T := fun k => match k with
  | 0 => ("RopeRound$Ground", "wide", "I", false)
  | 1 => ("RopeRound$Ground", "high", "I", false)
  | 2 => ("RopeRound$Ground", "men", "I", false)
  | 3 => ("RopeRound$Ground", "water", "J", false)
  | 4 => ("RopeRound$Ground", "stones", "J", false)
  | 5 => ("RopeRound$Ground", "worthBits", "[J", true)
  | 6 => ("RopeRound$Ground", "pegs", "[I", true)
  | 7 => ("RopeRound$Ground", "ropes", "[I", true)
  | 8 => ("RopeRound$Ground", "rings", "[J", true)
  | 9 => ("RopeRound$Ground", "ways", "[J", true)
  | 10 => ("RopeRound$Ground", "ringed", "J", false)
  | 11 => ("RopeRound$Ground", "freeEast", "J", false)
  | _ => ("RopeRound$Ground", "freeSouth", "J", false)
def tyC3 : Nat → FieldType := fun k => match k with
  | 0 => .int
  | 1 => .int
  | 2 => .int
  | 3 => .long
  | 4 => .long
  | 5 => .array .long
  | 6 => .array .int
  | 7 => .array .int
  | 8 => .array .long
  | 9 => .array .long
  | 10 => .long
  | 11 => .long
  | _ => .long
def RC4 : String := "RopeRound$Reader"
def TC4 : u_T := fun k => match k with
  | 0 => ("RopeRound$Reader", "tape", "LRopeRound$Tape;", true)
  | 1 => ("RopeRound$Reader", "draft", "LRopeRound$Ground;", true)
  | 2 => ("RopeRound$Reader", "fault", "I", false)
  | _ => ("RopeRound$Reader", "faultPlace", "I", false)
def tyC4 : Nat → FieldType := fun k => match k with
  | 0 => .object "RopeRound$Tape"
  | 1 => .object "RopeRound$Ground"
  | 2 => .int
  | _ => .int
def RC5 : String := "RopeRound$RingList"
def TC5 : u_T := fun k => match k with
  | 0 => ("RopeRound$Walk", "ground", "LRopeRound$Ground;", false)
  | 1 => ("RopeRound$Walk", "home", "I", false)
  | 2 => ("RopeRound$Walk", "limit", "I", false)
  | 3 => ("RopeRound$RingList", "rings", "[J", true)
  | 4 => ("RopeRound$RingList", "worths", "[I", true)
  | _ => ("RopeRound$RingList", "size", "I", false)
def tyC5 : Nat → FieldType := fun k => match k with
  | 0 => .object "RopeRound$Ground"
  | 1 => .int
  | 2 => .int
  | 3 => .array .long
  | 4 => .array .int
  | _ => .int
def RC6 : String := "RopeRound$Row"
def TC6 : u_T := fun k => match k with
  | 0 => ("RopeRound$Row", "items", "[I", true)
  | 1 => ("RopeRound$Row", "lane", "I", false)
  | _ => ("RopeRound$Row", "size", "I", false)
def tyC6 : Nat → FieldType := fun k => match k with
  | 0 => .array .int
  | 1 => .int
  | _ => .int
def RC7 : String := "RopeRound$Tape"
def TC7 : u_T := fun k => match k with
  | 0 => ("RopeRound$Tape", "bytes", "[B", true)
  | 1 => ("RopeRound$Tape", "length", "I", false)
  | 2 => ("RopeRound$Tape", "sort", "I", false)
  | 3 => ("RopeRound$Tape", "start", "I", false)
  | _ => ("RopeRound$Tape", "end", "I", false)
def tyC7 : Nat → FieldType := fun k => match k with
  | 0 => .array .byte
  | 1 => .int
  | 2 => .int
  | 3 => .int
  | _ => .int
def RC8 : String := "RopeRound$Trial"
def TC8 : u_T := fun k => match k with
  | 0 => ("RopeRound$Trial", "cells", "J", false)
  | 1 => ("RopeRound$Trial", "fault", "I", false)
  | _ => ("RopeRound$Trial", "step", "I", false)
def tyC8 : Nat → FieldType := fun k => match k with
  | 0 => .long
  | 1 => .int
  | _ => .int
def RC10 : String := "RopeRound"
def TC10 : u_T := fun k => match k with
  | 0 => ("RopeRound", "rows", "[LRopeRound$Row;", true)
  | 1 => ("RopeRound", "reader", "LRopeRound$Reader;", true)
  | 2 => ("RopeRound", "here", "LRopeRound$Ground;", true)
  | 3 => ("RopeRound", "images", "[LRopeRound$Ground;", true)
  | 4 => ("RopeRound", "trial", "LRopeRound$Trial;", true)
  | 5 => ("RopeRound", "best", "LRopeRound$Best;", true)
  | 6 => ("RopeRound", "firsts", "LRopeRound$RingList;", true)
  | 7 => ("RopeRound", "seconds", "LRopeRound$RingList;", true)
  | 8 => ("RopeRound", "finder", "LRopeRound$Finder;", true)
  | 9 => ("RopeRound", "asker", "LRopeRound$Asker;", true)
  | 10 => ("RopeRound", "finding", "I", false)
  | _ => ("RopeRound", "textFault", "I", false)
def tyC10 : Nat → FieldType := fun k => match k with
  | 0 => .array (.object "RopeRound$Row")
  | 1 => .object "RopeRound$Reader"
  | 2 => .object "RopeRound$Ground"
  | 3 => .array (.object "RopeRound$Ground")
  | 4 => .object "RopeRound$Trial"
  | 5 => .object "RopeRound$Best"
  | 6 => .object "RopeRound$RingList"
  | 7 => .object "RopeRound$RingList"
  | 8 => .object "RopeRound$Finder"
  | 9 => .object "RopeRound$Asker"
  | 10 => .int
  | _ => .int
def RC11 : String := "RopeRoundModel"
def TC11 : u_T := fun k => match k with
  | 0 => ("RopeRoundModel", "thrown", "I", false)
  | 1 => ("RopeRoundModel", "status", "I", false)
  | 2 => ("RopeRoundModel", "lane", "[I", true)
  | 3 => ("RopeRoundModel", "many", "[I", true)
  | 4 => ("RopeRoundModel", "item", "[I", true)
  | 5 => ("RopeRoundModel", "ground", "[I", true)
  | 6 => ("RopeRoundModel", "fresh", "[I", true)
  | 7 => ("RopeRoundModel", "isThere", "Z", false)
  | 8 => ("RopeRoundModel", "tape", "[I", true)
  | 9 => ("RopeRoundModel", "taped", "I", false)
  | 10 => ("RopeRoundModel", "latest", "I", false)
  | 11 => ("RopeRoundModel", "length", "I", false)
  | 12 => ("RopeRoundModel", "cursor", "I", false)
  | 13 => ("RopeRoundModel", "token", "I", false)
  | 14 => ("RopeRoundModel", "start", "I", false)
  | 15 => ("RopeRoundModel", "till", "I", false)
  | 16 => ("RopeRoundModel", "fault", "I", false)
  | 17 => ("RopeRoundModel", "faultAt", "I", false)
  | 18 => ("RopeRoundModel", "runs", "[Z", true)
  | 19 => ("RopeRoundModel", "owner", "[I", true)
  | 20 => ("RopeRoundModel", "ringed", "J", false)
  | 21 => ("RopeRoundModel", "came", "[I", true)
  | 22 => ("RopeRoundModel", "ways", "[I", true)
  | 23 => ("RopeRoundModel", "at", "[I", true)
  | 24 => ("RopeRoundModel", "taken", "[I", true)
  | 25 => ("RopeRoundModel", "depth", "[I", true)
  | 26 => ("RopeRoundModel", "mostSteps", "[I", true)
  | 27 => ("RopeRoundModel", "ropes", "[I", true)
  | 28 => ("RopeRoundModel", "steps", "[I", true)
  | 29 => ("RopeRoundModel", "inside", "J", false)
  | 30 => ("RopeRoundModel", "bestWays", "[I", true)
  | 31 => ("RopeRoundModel", "bestSteps", "I", false)
  | 32 => ("RopeRoundModel", "due", "[I", true)
  | 33 => ("RopeRoundModel", "isKept", "[Z", true)
  | 34 => ("RopeRoundModel", "kept", "[I", true)
  | 35 => ("RopeRoundModel", "trace", "[I", true)
  | _ => ("RopeRoundModel", "traced", "I", false)
def tyC11 : Nat → FieldType := fun k => match k with
  | 0 => .int
  | 1 => .int
  | 2 => .array .int
  | 3 => .array .int
  | 4 => .array .int
  | 5 => .array .int
  | 6 => .array .int
  | 7 => .boolean
  | 8 => .array .int
  | 9 => .int
  | 10 => .int
  | 11 => .int
  | 12 => .int
  | 13 => .int
  | 14 => .int
  | 15 => .int
  | 16 => .int
  | 17 => .int
  | 18 => .array .boolean
  | 19 => .array .int
  | 20 => .long
  | 21 => .array .int
  | 22 => .array .int
  | 23 => .array .int
  | 24 => .array .int
  | 25 => .array .int
  | 26 => .array .int
  | 27 => .array .int
  | 28 => .array .int
  | 29 => .long
  | 30 => .array .int
  | 31 => .int
  | 32 => .array .int
  | 33 => .array .boolean
  | 34 => .array .int
  | 35 => .array .int
  | _ => .int
def classes : List vw_C := [(RC0, TC0, 6), (RC1, TC1, 8), (RC2, TC2, 7), (RC3, TC3, 13), (RC4, TC4, 4), (RC5, TC5, 6), (RC6, TC6, 3), (RC7, TC7, 5), (RC8, TC8, 3), (RC0, TC0, 6), (RC10, TC10, 12), (RC11, TC11, 37)]
/-- what a class' field is: 0 an int, 1 a long, 2 a reference that never changes, 3 one that does, 4 a boolean -/
def fkt : List (List Nat) := [[2, 0, 0, 0, 0, 0], [3, 0, 0, 2, 2, 2, 1, 0], [3, 0, 0, 1, 1, 0, 0], [0, 0, 0, 1, 1, 2, 2, 2, 2, 2, 1, 1, 1], [2, 2, 0, 0], [3, 0, 0, 2, 2, 0], [2, 0, 0], [2, 0, 0, 0, 0], [1, 0, 0], [], [2, 2, 2, 2, 2, 2, 2, 2, 2, 2, 0, 0], [0, 0, 2, 2, 2, 2, 2, 4, 2, 0, 0, 0, 0, 0, 0, 0, 0, 0, 2, 2, 1, 2, 2, 2, 2, 2, 2, 2, 2, 1, 2, 0, 2, 2, 2, 2, 0]]
def ftk (ci k : Nat) : Nat := (fkt.getD ci []).getD k 9
def ClsOk (ci : Nat) (C : String) (T : u_T) (N : Nat) : Prop := classes[ci]? = some (C, T, N) ∧ (∀ w ∈ u_ws C T N, w ∈ tg) ∧ (∃ ty : Nat → FieldType, ∀ k, k < N → parseFieldDescriptor (T k).2.2.1 = some (ty k) ∧ ((ftk ci k = 1 ∧ ty k = .long) ∨ (ftk ci k = 0 ∧ ty k = .int) ∨ (ftk ci k = 4 ∧ ty k = .boolean) ∨ ((ftk ci k = 2 ∨ ftk ci k = 3) ∧ ((∃ o, ty k = .object o) ∨ ∃ o, ty k = .array o))) ∧ (ftk ci k = 2 → (T k).2.2.2 = true) ∧ (¬ ftk ci k = 2 → (T k).2.2.2 = false)) ∧ (∀ a, a < N → ∀ b, b < N → a ≠ b → (T a).2.1 ≠ (T b).2.1) ∧ ci < 100 ∧ N ≤ 100
def ClsNew (C : String) (N : Nat) : Prop := Cond.instantiable C N ∈ tg ∧ Cond.initialized C ∈ tg
theorem iC0 : ∀ w ∈ u_ws RC0 TC0 6, w ∈ tg := by
  intro w hw
  obtain ⟨k, hk, rfl⟩ := List.mem_map.mp hw
  have hk := List.mem_range.mp hk
  match k, hk with
  | 0, _ => exact kt (w := Cond.laysFinal "RopeRound$Asker" "RopeRound$Asker" "notes" "[I") 271 (by decide +kernel) (by decide +kernel)
  | 1, _ => exact kt (w := Cond.lays "RopeRound$Asker" "RopeRound$Asker" "noted" "I") 273 (by decide +kernel) (by decide +kernel)
  | 2, _ => exact kt (w := Cond.lays "RopeRound$Asker" "RopeRound$Asker" "cell" "I") 275 (by decide +kernel) (by decide +kernel)
  | 3, _ => exact kt (w := Cond.lays "RopeRound$Asker" "RopeRound$Asker" "worth" "I") 277 (by decide +kernel) (by decide +kernel)
  | 4, _ => exact kt (w := Cond.lays "RopeRound$Asker" "RopeRound$Asker" "kind" "I") 279 (by decide +kernel) (by decide +kernel)
  | 5, _ => exact kt (w := Cond.lays "RopeRound$Asker" "RopeRound$Asker" "ringMan" "I") 281 (by decide +kernel) (by decide +kernel)
  | k + 6, hk => exact absurd hk (by omega)
theorem okC0 : ClsOk 0 RC0 TC0 6 := by
  refine ⟨rfl, iC0, ⟨tyC0, fun k hk => ?_⟩, by decide +kernel, by decide, by decide⟩
  match k, hk with
  | 0, _ => exact ⟨by decide +kernel, Or.inr (Or.inr (Or.inr ⟨Or.inl rfl, Or.inr ⟨_, rfl⟩⟩)), fun _ => rfl, fun h => absurd rfl h⟩
  | 1, _ => exact ⟨by decide +kernel, Or.inr (Or.inl ⟨rfl, rfl⟩), fun h => absurd h (by decide), fun _ => rfl⟩
  | 2, _ => exact ⟨by decide +kernel, Or.inr (Or.inl ⟨rfl, rfl⟩), fun h => absurd h (by decide), fun _ => rfl⟩
  | 3, _ => exact ⟨by decide +kernel, Or.inr (Or.inl ⟨rfl, rfl⟩), fun h => absurd h (by decide), fun _ => rfl⟩
  | 4, _ => exact ⟨by decide +kernel, Or.inr (Or.inl ⟨rfl, rfl⟩), fun h => absurd h (by decide), fun _ => rfl⟩
  | 5, _ => exact ⟨by decide +kernel, Or.inr (Or.inl ⟨rfl, rfl⟩), fun h => absurd h (by decide), fun _ => rfl⟩
  | k + 6, hk => exact absurd hk (by omega)
theorem nwC0 : ClsNew RC0 6 := ⟨kt 258 (by decide +kernel) (by decide +kernel), kt 10 (by decide +kernel) (by decide +kernel)⟩
theorem iC1 : ∀ w ∈ u_ws RC1 TC1 8, w ∈ tg := by
  intro w hw
  obtain ⟨k, hk, rfl⟩ := List.mem_map.mp hw
  have hk := List.mem_range.mp hk
  match k, hk with
  | 0, _ => exact kt (w := Cond.lays "RopeRound$Best" "RopeRound$Walk" "ground" "LRopeRound$Ground;") 206 (by decide +kernel) (by decide +kernel)
  | 1, _ => exact kt (w := Cond.lays "RopeRound$Best" "RopeRound$Walk" "home" "I") 208 (by decide +kernel) (by decide +kernel)
  | 2, _ => exact kt (w := Cond.lays "RopeRound$Best" "RopeRound$Walk" "limit" "I") 210 (by decide +kernel) (by decide +kernel)
  | 3, _ => exact kt (w := Cond.laysFinal "RopeRound$Best" "RopeRound$Best" "worths" "[I") 196 (by decide +kernel) (by decide +kernel)
  | 4, _ => exact kt (w := Cond.laysFinal "RopeRound$Best" "RopeRound$Best" "steps" "[I") 198 (by decide +kernel) (by decide +kernel)
  | 5, _ => exact kt (w := Cond.laysFinal "RopeRound$Best" "RopeRound$Best" "ways" "[J") 200 (by decide +kernel) (by decide +kernel)
  | 6, _ => exact kt (w := Cond.lays "RopeRound$Best" "RopeRound$Best" "known" "J") 202 (by decide +kernel) (by decide +kernel)
  | 7, _ => exact kt (w := Cond.lays "RopeRound$Best" "RopeRound$Best" "base" "I") 204 (by decide +kernel) (by decide +kernel)
  | k + 8, hk => exact absurd hk (by omega)
theorem okC1 : ClsOk 1 RC1 TC1 8 := by
  refine ⟨rfl, iC1, ⟨tyC1, fun k hk => ?_⟩, by decide +kernel, by decide, by decide⟩
  match k, hk with
  | 0, _ => exact ⟨by decide +kernel, Or.inr (Or.inr (Or.inr ⟨Or.inr rfl, Or.inl ⟨_, rfl⟩⟩)), fun h => absurd h (by decide), fun _ => rfl⟩
  | 1, _ => exact ⟨by decide +kernel, Or.inr (Or.inl ⟨rfl, rfl⟩), fun h => absurd h (by decide), fun _ => rfl⟩
  | 2, _ => exact ⟨by decide +kernel, Or.inr (Or.inl ⟨rfl, rfl⟩), fun h => absurd h (by decide), fun _ => rfl⟩
  | 3, _ => exact ⟨by decide +kernel, Or.inr (Or.inr (Or.inr ⟨Or.inl rfl, Or.inr ⟨_, rfl⟩⟩)), fun _ => rfl, fun h => absurd rfl h⟩
  | 4, _ => exact ⟨by decide +kernel, Or.inr (Or.inr (Or.inr ⟨Or.inl rfl, Or.inr ⟨_, rfl⟩⟩)), fun _ => rfl, fun h => absurd rfl h⟩
  | 5, _ => exact ⟨by decide +kernel, Or.inr (Or.inr (Or.inr ⟨Or.inl rfl, Or.inr ⟨_, rfl⟩⟩)), fun _ => rfl, fun h => absurd rfl h⟩
  | 6, _ => exact ⟨by decide +kernel, Or.inl ⟨rfl, rfl⟩, fun h => absurd h (by decide), fun _ => rfl⟩
  | 7, _ => exact ⟨by decide +kernel, Or.inr (Or.inl ⟨rfl, rfl⟩), fun h => absurd h (by decide), fun _ => rfl⟩
  | k + 8, hk => exact absurd hk (by omega)
theorem nwC1 : ClsNew RC1 8 := ⟨kt 171 (by decide +kernel) (by decide +kernel), kt 7 (by decide +kernel) (by decide +kernel)⟩
theorem iC2 : ∀ w ∈ u_ws RC2 TC2 7, w ∈ tg := by
  intro w hw
  obtain ⟨k, hk, rfl⟩ := List.mem_map.mp hw
  have hk := List.mem_range.mp hk
  match k, hk with
  | 0, _ => exact kt (w := Cond.lays "RopeRound$Finder" "RopeRound$Walk" "ground" "LRopeRound$Ground;") 253 (by decide +kernel) (by decide +kernel)
  | 1, _ => exact kt (w := Cond.lays "RopeRound$Finder" "RopeRound$Walk" "home" "I") 254 (by decide +kernel) (by decide +kernel)
  | 2, _ => exact kt (w := Cond.lays "RopeRound$Finder" "RopeRound$Walk" "limit" "I") 255 (by decide +kernel) (by decide +kernel)
  | 3, _ => exact kt (w := Cond.lays "RopeRound$Finder" "RopeRound$Finder" "toldCorners" "J") 245 (by decide +kernel) (by decide +kernel)
  | 4, _ => exact kt (w := Cond.lays "RopeRound$Finder" "RopeRound$Finder" "toldCells" "J") 247 (by decide +kernel) (by decide +kernel)
  | 5, _ => exact kt (w := Cond.lays "RopeRound$Finder" "RopeRound$Finder" "rope" "I") 249 (by decide +kernel) (by decide +kernel)
  | 6, _ => exact kt (w := Cond.lays "RopeRound$Finder" "RopeRound$Finder" "fitting" "I") 251 (by decide +kernel) (by decide +kernel)
  | k + 7, hk => exact absurd hk (by omega)
theorem okC2 : ClsOk 2 RC2 TC2 7 := by
  refine ⟨rfl, iC2, ⟨tyC2, fun k hk => ?_⟩, by decide +kernel, by decide, by decide⟩
  match k, hk with
  | 0, _ => exact ⟨by decide +kernel, Or.inr (Or.inr (Or.inr ⟨Or.inr rfl, Or.inl ⟨_, rfl⟩⟩)), fun h => absurd h (by decide), fun _ => rfl⟩
  | 1, _ => exact ⟨by decide +kernel, Or.inr (Or.inl ⟨rfl, rfl⟩), fun h => absurd h (by decide), fun _ => rfl⟩
  | 2, _ => exact ⟨by decide +kernel, Or.inr (Or.inl ⟨rfl, rfl⟩), fun h => absurd h (by decide), fun _ => rfl⟩
  | 3, _ => exact ⟨by decide +kernel, Or.inl ⟨rfl, rfl⟩, fun h => absurd h (by decide), fun _ => rfl⟩
  | 4, _ => exact ⟨by decide +kernel, Or.inl ⟨rfl, rfl⟩, fun h => absurd h (by decide), fun _ => rfl⟩
  | 5, _ => exact ⟨by decide +kernel, Or.inr (Or.inl ⟨rfl, rfl⟩), fun h => absurd h (by decide), fun _ => rfl⟩
  | 6, _ => exact ⟨by decide +kernel, Or.inr (Or.inl ⟨rfl, rfl⟩), fun h => absurd h (by decide), fun _ => rfl⟩
  | k + 7, hk => exact absurd hk (by omega)
theorem nwC2 : ClsNew RC2 7 := ⟨kt 236 (by decide +kernel) (by decide +kernel), kt 9 (by decide +kernel) (by decide +kernel)⟩
theorem iC3 : ∀ w ∈ u_ws RC3 TC3 13, w ∈ tg := by
  intro w hw
  obtain ⟨k, hk, rfl⟩ := List.mem_map.mp hw
  have hk := List.mem_range.mp hk
  match k, hk with
  | 0, _ => exact kt (w := Cond.lays "RopeRound$Ground" "RopeRound$Ground" "wide" "I") 102 (by decide +kernel) (by decide +kernel)
  | 1, _ => exact kt (w := Cond.lays "RopeRound$Ground" "RopeRound$Ground" "high" "I") 104 (by decide +kernel) (by decide +kernel)
  | 2, _ => exact kt (w := Cond.lays "RopeRound$Ground" "RopeRound$Ground" "men" "I") 106 (by decide +kernel) (by decide +kernel)
  | 3, _ => exact kt (w := Cond.lays "RopeRound$Ground" "RopeRound$Ground" "water" "J") 108 (by decide +kernel) (by decide +kernel)
  | 4, _ => exact kt (w := Cond.lays "RopeRound$Ground" "RopeRound$Ground" "stones" "J") 110 (by decide +kernel) (by decide +kernel)
  | 5, _ => exact kt (w := Cond.laysFinal "RopeRound$Ground" "RopeRound$Ground" "worthBits" "[J") 112 (by decide +kernel) (by decide +kernel)
  | 6, _ => exact kt (w := Cond.laysFinal "RopeRound$Ground" "RopeRound$Ground" "pegs" "[I") 114 (by decide +kernel) (by decide +kernel)
  | 7, _ => exact kt (w := Cond.laysFinal "RopeRound$Ground" "RopeRound$Ground" "ropes" "[I") 116 (by decide +kernel) (by decide +kernel)
  | 8, _ => exact kt (w := Cond.laysFinal "RopeRound$Ground" "RopeRound$Ground" "rings" "[J") 118 (by decide +kernel) (by decide +kernel)
  | 9, _ => exact kt (w := Cond.laysFinal "RopeRound$Ground" "RopeRound$Ground" "ways" "[J") 120 (by decide +kernel) (by decide +kernel)
  | 10, _ => exact kt (w := Cond.lays "RopeRound$Ground" "RopeRound$Ground" "ringed" "J") 122 (by decide +kernel) (by decide +kernel)
  | 11, _ => exact kt (w := Cond.lays "RopeRound$Ground" "RopeRound$Ground" "freeEast" "J") 124 (by decide +kernel) (by decide +kernel)
  | 12, _ => exact kt (w := Cond.lays "RopeRound$Ground" "RopeRound$Ground" "freeSouth" "J") 126 (by decide +kernel) (by decide +kernel)
  | k + 13, hk => exact absurd hk (by omega)
theorem okC3 : ClsOk 3 RC3 TC3 13 := by
  refine ⟨rfl, iC3, ⟨tyC3, fun k hk => ?_⟩, by decide +kernel, by decide, by decide⟩
  match k, hk with
  | 0, _ => exact ⟨by decide +kernel, Or.inr (Or.inl ⟨rfl, rfl⟩), fun h => absurd h (by decide), fun _ => rfl⟩
  | 1, _ => exact ⟨by decide +kernel, Or.inr (Or.inl ⟨rfl, rfl⟩), fun h => absurd h (by decide), fun _ => rfl⟩
  | 2, _ => exact ⟨by decide +kernel, Or.inr (Or.inl ⟨rfl, rfl⟩), fun h => absurd h (by decide), fun _ => rfl⟩
  | 3, _ => exact ⟨by decide +kernel, Or.inl ⟨rfl, rfl⟩, fun h => absurd h (by decide), fun _ => rfl⟩
  | 4, _ => exact ⟨by decide +kernel, Or.inl ⟨rfl, rfl⟩, fun h => absurd h (by decide), fun _ => rfl⟩
  | 5, _ => exact ⟨by decide +kernel, Or.inr (Or.inr (Or.inr ⟨Or.inl rfl, Or.inr ⟨_, rfl⟩⟩)), fun _ => rfl, fun h => absurd rfl h⟩
  | 6, _ => exact ⟨by decide +kernel, Or.inr (Or.inr (Or.inr ⟨Or.inl rfl, Or.inr ⟨_, rfl⟩⟩)), fun _ => rfl, fun h => absurd rfl h⟩
  | 7, _ => exact ⟨by decide +kernel, Or.inr (Or.inr (Or.inr ⟨Or.inl rfl, Or.inr ⟨_, rfl⟩⟩)), fun _ => rfl, fun h => absurd rfl h⟩
  | 8, _ => exact ⟨by decide +kernel, Or.inr (Or.inr (Or.inr ⟨Or.inl rfl, Or.inr ⟨_, rfl⟩⟩)), fun _ => rfl, fun h => absurd rfl h⟩
  | 9, _ => exact ⟨by decide +kernel, Or.inr (Or.inr (Or.inr ⟨Or.inl rfl, Or.inr ⟨_, rfl⟩⟩)), fun _ => rfl, fun h => absurd rfl h⟩
  | 10, _ => exact ⟨by decide +kernel, Or.inl ⟨rfl, rfl⟩, fun h => absurd h (by decide), fun _ => rfl⟩
  | 11, _ => exact ⟨by decide +kernel, Or.inl ⟨rfl, rfl⟩, fun h => absurd h (by decide), fun _ => rfl⟩
  | 12, _ => exact ⟨by decide +kernel, Or.inl ⟨rfl, rfl⟩, fun h => absurd h (by decide), fun _ => rfl⟩
  | k + 13, hk => exact absurd hk (by omega)
theorem nwC3 : ClsNew RC3 13 := ⟨kt 65 (by decide +kernel) (by decide +kernel), kt 4 (by decide +kernel) (by decide +kernel)⟩
theorem iC4 : ∀ w ∈ u_ws RC4 TC4 4, w ∈ tg := by
  intro w hw
  obtain ⟨k, hk, rfl⟩ := List.mem_map.mp hw
  have hk := List.mem_range.mp hk
  match k, hk with
  | 0, _ => exact kt (w := Cond.laysFinal "RopeRound$Reader" "RopeRound$Reader" "tape" "LRopeRound$Tape;") 139 (by decide +kernel) (by decide +kernel)
  | 1, _ => exact kt (w := Cond.laysFinal "RopeRound$Reader" "RopeRound$Reader" "draft" "LRopeRound$Ground;") 141 (by decide +kernel) (by decide +kernel)
  | 2, _ => exact kt (w := Cond.lays "RopeRound$Reader" "RopeRound$Reader" "fault" "I") 143 (by decide +kernel) (by decide +kernel)
  | 3, _ => exact kt (w := Cond.lays "RopeRound$Reader" "RopeRound$Reader" "faultPlace" "I") 145 (by decide +kernel) (by decide +kernel)
  | k + 4, hk => exact absurd hk (by omega)
theorem okC4 : ClsOk 4 RC4 TC4 4 := by
  refine ⟨rfl, iC4, ⟨tyC4, fun k hk => ?_⟩, by decide +kernel, by decide, by decide⟩
  match k, hk with
  | 0, _ => exact ⟨by decide +kernel, Or.inr (Or.inr (Or.inr ⟨Or.inl rfl, Or.inl ⟨_, rfl⟩⟩)), fun _ => rfl, fun h => absurd rfl h⟩
  | 1, _ => exact ⟨by decide +kernel, Or.inr (Or.inr (Or.inr ⟨Or.inl rfl, Or.inl ⟨_, rfl⟩⟩)), fun _ => rfl, fun h => absurd rfl h⟩
  | 2, _ => exact ⟨by decide +kernel, Or.inr (Or.inl ⟨rfl, rfl⟩), fun h => absurd h (by decide), fun _ => rfl⟩
  | 3, _ => exact ⟨by decide +kernel, Or.inr (Or.inl ⟨rfl, rfl⟩), fun h => absurd h (by decide), fun _ => rfl⟩
  | k + 4, hk => exact absurd hk (by omega)
theorem nwC4 : ClsNew RC4 4 := ⟨kt 31 (by decide +kernel) (by decide +kernel), kt 2 (by decide +kernel) (by decide +kernel)⟩
theorem iC5 : ∀ w ∈ u_ws RC5 TC5 6, w ∈ tg := by
  intro w hw
  obtain ⟨k, hk, rfl⟩ := List.mem_map.mp hw
  have hk := List.mem_range.mp hk
  match k, hk with
  | 0, _ => exact kt (w := Cond.lays "RopeRound$RingList" "RopeRound$Walk" "ground" "LRopeRound$Ground;") 231 (by decide +kernel) (by decide +kernel)
  | 1, _ => exact kt (w := Cond.lays "RopeRound$RingList" "RopeRound$Walk" "home" "I") 232 (by decide +kernel) (by decide +kernel)
  | 2, _ => exact kt (w := Cond.lays "RopeRound$RingList" "RopeRound$Walk" "limit" "I") 233 (by decide +kernel) (by decide +kernel)
  | 3, _ => exact kt (w := Cond.laysFinal "RopeRound$RingList" "RopeRound$RingList" "rings" "[J") 225 (by decide +kernel) (by decide +kernel)
  | 4, _ => exact kt (w := Cond.laysFinal "RopeRound$RingList" "RopeRound$RingList" "worths" "[I") 227 (by decide +kernel) (by decide +kernel)
  | 5, _ => exact kt (w := Cond.lays "RopeRound$RingList" "RopeRound$RingList" "size" "I") 229 (by decide +kernel) (by decide +kernel)
  | k + 6, hk => exact absurd hk (by omega)
theorem okC5 : ClsOk 5 RC5 TC5 6 := by
  refine ⟨rfl, iC5, ⟨tyC5, fun k hk => ?_⟩, by decide +kernel, by decide, by decide⟩
  match k, hk with
  | 0, _ => exact ⟨by decide +kernel, Or.inr (Or.inr (Or.inr ⟨Or.inr rfl, Or.inl ⟨_, rfl⟩⟩)), fun h => absurd h (by decide), fun _ => rfl⟩
  | 1, _ => exact ⟨by decide +kernel, Or.inr (Or.inl ⟨rfl, rfl⟩), fun h => absurd h (by decide), fun _ => rfl⟩
  | 2, _ => exact ⟨by decide +kernel, Or.inr (Or.inl ⟨rfl, rfl⟩), fun h => absurd h (by decide), fun _ => rfl⟩
  | 3, _ => exact ⟨by decide +kernel, Or.inr (Or.inr (Or.inr ⟨Or.inl rfl, Or.inr ⟨_, rfl⟩⟩)), fun _ => rfl, fun h => absurd rfl h⟩
  | 4, _ => exact ⟨by decide +kernel, Or.inr (Or.inr (Or.inr ⟨Or.inl rfl, Or.inr ⟨_, rfl⟩⟩)), fun _ => rfl, fun h => absurd rfl h⟩
  | 5, _ => exact ⟨by decide +kernel, Or.inr (Or.inl ⟨rfl, rfl⟩), fun h => absurd h (by decide), fun _ => rfl⟩
  | k + 6, hk => exact absurd hk (by omega)
theorem nwC5 : ClsNew RC5 6 := ⟨kt 214 (by decide +kernel) (by decide +kernel), kt 8 (by decide +kernel) (by decide +kernel)⟩
theorem iC6 : ∀ w ∈ u_ws RC6 TC6 3, w ∈ tg := by
  intro w hw
  obtain ⟨k, hk, rfl⟩ := List.mem_map.mp hw
  have hk := List.mem_range.mp hk
  match k, hk with
  | 0, _ => exact kt (w := Cond.laysFinal "RopeRound$Row" "RopeRound$Row" "items" "[I") 297 (by decide +kernel) (by decide +kernel)
  | 1, _ => exact kt (w := Cond.lays "RopeRound$Row" "RopeRound$Row" "lane" "I") 299 (by decide +kernel) (by decide +kernel)
  | 2, _ => exact kt (w := Cond.lays "RopeRound$Row" "RopeRound$Row" "size" "I") 301 (by decide +kernel) (by decide +kernel)
  | k + 3, hk => exact absurd hk (by omega)
theorem okC6 : ClsOk 6 RC6 TC6 3 := by
  refine ⟨rfl, iC6, ⟨tyC6, fun k hk => ?_⟩, by decide +kernel, by decide, by decide⟩
  match k, hk with
  | 0, _ => exact ⟨by decide +kernel, Or.inr (Or.inr (Or.inr ⟨Or.inl rfl, Or.inr ⟨_, rfl⟩⟩)), fun _ => rfl, fun h => absurd rfl h⟩
  | 1, _ => exact ⟨by decide +kernel, Or.inr (Or.inl ⟨rfl, rfl⟩), fun h => absurd h (by decide), fun _ => rfl⟩
  | 2, _ => exact ⟨by decide +kernel, Or.inr (Or.inl ⟨rfl, rfl⟩), fun h => absurd h (by decide), fun _ => rfl⟩
  | k + 3, hk => exact absurd hk (by omega)
theorem nwC6 : ClsNew RC6 3 := ⟨kt 284 (by decide +kernel) (by decide +kernel), kt 11 (by decide +kernel) (by decide +kernel)⟩
theorem iC7 : ∀ w ∈ u_ws RC7 TC7 5, w ∈ tg := by
  intro w hw
  obtain ⟨k, hk, rfl⟩ := List.mem_map.mp hw
  have hk := List.mem_range.mp hk
  match k, hk with
  | 0, _ => exact kt (w := Cond.laysFinal "RopeRound$Tape" "RopeRound$Tape" "bytes" "[B") 52 (by decide +kernel) (by decide +kernel)
  | 1, _ => exact kt (w := Cond.lays "RopeRound$Tape" "RopeRound$Tape" "length" "I") 54 (by decide +kernel) (by decide +kernel)
  | 2, _ => exact kt (w := Cond.lays "RopeRound$Tape" "RopeRound$Tape" "sort" "I") 56 (by decide +kernel) (by decide +kernel)
  | 3, _ => exact kt (w := Cond.lays "RopeRound$Tape" "RopeRound$Tape" "start" "I") 58 (by decide +kernel) (by decide +kernel)
  | 4, _ => exact kt (w := Cond.lays "RopeRound$Tape" "RopeRound$Tape" "end" "I") 60 (by decide +kernel) (by decide +kernel)
  | k + 5, hk => exact absurd hk (by omega)
theorem okC7 : ClsOk 7 RC7 TC7 5 := by
  refine ⟨rfl, iC7, ⟨tyC7, fun k hk => ?_⟩, by decide +kernel, by decide, by decide⟩
  match k, hk with
  | 0, _ => exact ⟨by decide +kernel, Or.inr (Or.inr (Or.inr ⟨Or.inl rfl, Or.inr ⟨_, rfl⟩⟩)), fun _ => rfl, fun h => absurd rfl h⟩
  | 1, _ => exact ⟨by decide +kernel, Or.inr (Or.inl ⟨rfl, rfl⟩), fun h => absurd h (by decide), fun _ => rfl⟩
  | 2, _ => exact ⟨by decide +kernel, Or.inr (Or.inl ⟨rfl, rfl⟩), fun h => absurd h (by decide), fun _ => rfl⟩
  | 3, _ => exact ⟨by decide +kernel, Or.inr (Or.inl ⟨rfl, rfl⟩), fun h => absurd h (by decide), fun _ => rfl⟩
  | 4, _ => exact ⟨by decide +kernel, Or.inr (Or.inl ⟨rfl, rfl⟩), fun h => absurd h (by decide), fun _ => rfl⟩
  | k + 5, hk => exact absurd hk (by omega)
theorem nwC7 : ClsNew RC7 5 := ⟨kt 37 (by decide +kernel) (by decide +kernel), kt 3 (by decide +kernel) (by decide +kernel)⟩
theorem iC8 : ∀ w ∈ u_ws RC8 TC8 3, w ∈ tg := by
  intro w hw
  obtain ⟨k, hk, rfl⟩ := List.mem_map.mp hw
  have hk := List.mem_range.mp hk
  match k, hk with
  | 0, _ => exact kt (w := Cond.lays "RopeRound$Trial" "RopeRound$Trial" "cells" "J") 163 (by decide +kernel) (by decide +kernel)
  | 1, _ => exact kt (w := Cond.lays "RopeRound$Trial" "RopeRound$Trial" "fault" "I") 165 (by decide +kernel) (by decide +kernel)
  | 2, _ => exact kt (w := Cond.lays "RopeRound$Trial" "RopeRound$Trial" "step" "I") 167 (by decide +kernel) (by decide +kernel)
  | k + 3, hk => exact absurd hk (by omega)
theorem okC8 : ClsOk 8 RC8 TC8 3 := by
  refine ⟨rfl, iC8, ⟨tyC8, fun k hk => ?_⟩, by decide +kernel, by decide, by decide⟩
  match k, hk with
  | 0, _ => exact ⟨by decide +kernel, Or.inl ⟨rfl, rfl⟩, fun h => absurd h (by decide), fun _ => rfl⟩
  | 1, _ => exact ⟨by decide +kernel, Or.inr (Or.inl ⟨rfl, rfl⟩), fun h => absurd h (by decide), fun _ => rfl⟩
  | 2, _ => exact ⟨by decide +kernel, Or.inr (Or.inl ⟨rfl, rfl⟩), fun h => absurd h (by decide), fun _ => rfl⟩
  | k + 3, hk => exact absurd hk (by omega)
theorem nwC8 : ClsNew RC8 3 := ⟨kt 152 (by decide +kernel) (by decide +kernel), kt 5 (by decide +kernel) (by decide +kernel)⟩
theorem iC10 : ∀ w ∈ u_ws RC10 TC10 12, w ∈ tg := by
  intro w hw
  obtain ⟨k, hk, rfl⟩ := List.mem_map.mp hw
  have hk := List.mem_range.mp hk
  match k, hk with
  | 0, _ => exact kt (w := Cond.laysFinal "RopeRound" "RopeRound" "rows" "[LRopeRound$Row;") 316 (by decide +kernel) (by decide +kernel)
  | 1, _ => exact kt (w := Cond.laysFinal "RopeRound" "RopeRound" "reader" "LRopeRound$Reader;") 318 (by decide +kernel) (by decide +kernel)
  | 2, _ => exact kt (w := Cond.laysFinal "RopeRound" "RopeRound" "here" "LRopeRound$Ground;") 320 (by decide +kernel) (by decide +kernel)
  | 3, _ => exact kt (w := Cond.laysFinal "RopeRound" "RopeRound" "images" "[LRopeRound$Ground;") 322 (by decide +kernel) (by decide +kernel)
  | 4, _ => exact kt (w := Cond.laysFinal "RopeRound" "RopeRound" "trial" "LRopeRound$Trial;") 324 (by decide +kernel) (by decide +kernel)
  | 5, _ => exact kt (w := Cond.laysFinal "RopeRound" "RopeRound" "best" "LRopeRound$Best;") 326 (by decide +kernel) (by decide +kernel)
  | 6, _ => exact kt (w := Cond.laysFinal "RopeRound" "RopeRound" "firsts" "LRopeRound$RingList;") 328 (by decide +kernel) (by decide +kernel)
  | 7, _ => exact kt (w := Cond.laysFinal "RopeRound" "RopeRound" "seconds" "LRopeRound$RingList;") 330 (by decide +kernel) (by decide +kernel)
  | 8, _ => exact kt (w := Cond.laysFinal "RopeRound" "RopeRound" "finder" "LRopeRound$Finder;") 332 (by decide +kernel) (by decide +kernel)
  | 9, _ => exact kt (w := Cond.laysFinal "RopeRound" "RopeRound" "asker" "LRopeRound$Asker;") 334 (by decide +kernel) (by decide +kernel)
  | 10, _ => exact kt (w := Cond.lays "RopeRound" "RopeRound" "finding" "I") 336 (by decide +kernel) (by decide +kernel)
  | 11, _ => exact kt (w := Cond.lays "RopeRound" "RopeRound" "textFault" "I") 338 (by decide +kernel) (by decide +kernel)
  | k + 12, hk => exact absurd hk (by omega)
theorem okC10 : ClsOk 10 RC10 TC10 12 := by
  refine ⟨rfl, iC10, ⟨tyC10, fun k hk => ?_⟩, by decide +kernel, by decide, by decide⟩
  match k, hk with
  | 0, _ => exact ⟨by decide +kernel, Or.inr (Or.inr (Or.inr ⟨Or.inl rfl, Or.inr ⟨_, rfl⟩⟩)), fun _ => rfl, fun h => absurd rfl h⟩
  | 1, _ => exact ⟨by decide +kernel, Or.inr (Or.inr (Or.inr ⟨Or.inl rfl, Or.inl ⟨_, rfl⟩⟩)), fun _ => rfl, fun h => absurd rfl h⟩
  | 2, _ => exact ⟨by decide +kernel, Or.inr (Or.inr (Or.inr ⟨Or.inl rfl, Or.inl ⟨_, rfl⟩⟩)), fun _ => rfl, fun h => absurd rfl h⟩
  | 3, _ => exact ⟨by decide +kernel, Or.inr (Or.inr (Or.inr ⟨Or.inl rfl, Or.inr ⟨_, rfl⟩⟩)), fun _ => rfl, fun h => absurd rfl h⟩
  | 4, _ => exact ⟨by decide +kernel, Or.inr (Or.inr (Or.inr ⟨Or.inl rfl, Or.inl ⟨_, rfl⟩⟩)), fun _ => rfl, fun h => absurd rfl h⟩
  | 5, _ => exact ⟨by decide +kernel, Or.inr (Or.inr (Or.inr ⟨Or.inl rfl, Or.inl ⟨_, rfl⟩⟩)), fun _ => rfl, fun h => absurd rfl h⟩
  | 6, _ => exact ⟨by decide +kernel, Or.inr (Or.inr (Or.inr ⟨Or.inl rfl, Or.inl ⟨_, rfl⟩⟩)), fun _ => rfl, fun h => absurd rfl h⟩
  | 7, _ => exact ⟨by decide +kernel, Or.inr (Or.inr (Or.inr ⟨Or.inl rfl, Or.inl ⟨_, rfl⟩⟩)), fun _ => rfl, fun h => absurd rfl h⟩
  | 8, _ => exact ⟨by decide +kernel, Or.inr (Or.inr (Or.inr ⟨Or.inl rfl, Or.inl ⟨_, rfl⟩⟩)), fun _ => rfl, fun h => absurd rfl h⟩
  | 9, _ => exact ⟨by decide +kernel, Or.inr (Or.inr (Or.inr ⟨Or.inl rfl, Or.inl ⟨_, rfl⟩⟩)), fun _ => rfl, fun h => absurd rfl h⟩
  | 10, _ => exact ⟨by decide +kernel, Or.inr (Or.inl ⟨rfl, rfl⟩), fun h => absurd h (by decide), fun _ => rfl⟩
  | 11, _ => exact ⟨by decide +kernel, Or.inr (Or.inl ⟨rfl, rfl⟩), fun h => absurd h (by decide), fun _ => rfl⟩
  | k + 12, hk => exact absurd hk (by omega)
theorem nwC10 : ClsNew RC10 12 := ⟨kt 21 (by decide +kernel) (by decide +kernel), kt 1 (by decide +kernel) (by decide +kernel)⟩
theorem iC11 : ∀ w ∈ u_ws RC11 TC11 37, w ∈ tg := by
  intro w hw
  obtain ⟨k, hk, rfl⟩ := List.mem_map.mp hw
  have hk := List.mem_range.mp hk
  match k, hk with
  | 0, _ => exact kt (w := Cond.lays "RopeRoundModel" "RopeRoundModel" "thrown" "I") 954 (by decide +kernel) (by decide +kernel)
  | 1, _ => exact kt (w := Cond.lays "RopeRoundModel" "RopeRoundModel" "status" "I") 956 (by decide +kernel) (by decide +kernel)
  | 2, _ => exact kt (w := Cond.laysFinal "RopeRoundModel" "RopeRoundModel" "lane" "[I") 958 (by decide +kernel) (by decide +kernel)
  | 3, _ => exact kt (w := Cond.laysFinal "RopeRoundModel" "RopeRoundModel" "many" "[I") 960 (by decide +kernel) (by decide +kernel)
  | 4, _ => exact kt (w := Cond.laysFinal "RopeRoundModel" "RopeRoundModel" "item" "[I") 962 (by decide +kernel) (by decide +kernel)
  | 5, _ => exact kt (w := Cond.laysFinal "RopeRoundModel" "RopeRoundModel" "ground" "[I") 964 (by decide +kernel) (by decide +kernel)
  | 6, _ => exact kt (w := Cond.laysFinal "RopeRoundModel" "RopeRoundModel" "fresh" "[I") 966 (by decide +kernel) (by decide +kernel)
  | 7, _ => exact kt (w := Cond.lays "RopeRoundModel" "RopeRoundModel" "isThere" "Z") 968 (by decide +kernel) (by decide +kernel)
  | 8, _ => exact kt (w := Cond.laysFinal "RopeRoundModel" "RopeRoundModel" "tape" "[I") 970 (by decide +kernel) (by decide +kernel)
  | 9, _ => exact kt (w := Cond.lays "RopeRoundModel" "RopeRoundModel" "taped" "I") 972 (by decide +kernel) (by decide +kernel)
  | 10, _ => exact kt (w := Cond.lays "RopeRoundModel" "RopeRoundModel" "latest" "I") 974 (by decide +kernel) (by decide +kernel)
  | 11, _ => exact kt (w := Cond.lays "RopeRoundModel" "RopeRoundModel" "length" "I") 976 (by decide +kernel) (by decide +kernel)
  | 12, _ => exact kt (w := Cond.lays "RopeRoundModel" "RopeRoundModel" "cursor" "I") 978 (by decide +kernel) (by decide +kernel)
  | 13, _ => exact kt (w := Cond.lays "RopeRoundModel" "RopeRoundModel" "token" "I") 980 (by decide +kernel) (by decide +kernel)
  | 14, _ => exact kt (w := Cond.lays "RopeRoundModel" "RopeRoundModel" "start" "I") 982 (by decide +kernel) (by decide +kernel)
  | 15, _ => exact kt (w := Cond.lays "RopeRoundModel" "RopeRoundModel" "till" "I") 984 (by decide +kernel) (by decide +kernel)
  | 16, _ => exact kt (w := Cond.lays "RopeRoundModel" "RopeRoundModel" "fault" "I") 986 (by decide +kernel) (by decide +kernel)
  | 17, _ => exact kt (w := Cond.lays "RopeRoundModel" "RopeRoundModel" "faultAt" "I") 988 (by decide +kernel) (by decide +kernel)
  | 18, _ => exact kt (w := Cond.laysFinal "RopeRoundModel" "RopeRoundModel" "runs" "[Z") 990 (by decide +kernel) (by decide +kernel)
  | 19, _ => exact kt (w := Cond.laysFinal "RopeRoundModel" "RopeRoundModel" "owner" "[I") 992 (by decide +kernel) (by decide +kernel)
  | 20, _ => exact kt (w := Cond.lays "RopeRoundModel" "RopeRoundModel" "ringed" "J") 994 (by decide +kernel) (by decide +kernel)
  | 21, _ => exact kt (w := Cond.laysFinal "RopeRoundModel" "RopeRoundModel" "came" "[I") 996 (by decide +kernel) (by decide +kernel)
  | 22, _ => exact kt (w := Cond.laysFinal "RopeRoundModel" "RopeRoundModel" "ways" "[I") 998 (by decide +kernel) (by decide +kernel)
  | 23, _ => exact kt (w := Cond.laysFinal "RopeRoundModel" "RopeRoundModel" "at" "[I") 1000 (by decide +kernel) (by decide +kernel)
  | 24, _ => exact kt (w := Cond.laysFinal "RopeRoundModel" "RopeRoundModel" "taken" "[I") 1002 (by decide +kernel) (by decide +kernel)
  | 25, _ => exact kt (w := Cond.laysFinal "RopeRoundModel" "RopeRoundModel" "depth" "[I") 1004 (by decide +kernel) (by decide +kernel)
  | 26, _ => exact kt (w := Cond.laysFinal "RopeRoundModel" "RopeRoundModel" "mostSteps" "[I") 1006 (by decide +kernel) (by decide +kernel)
  | 27, _ => exact kt (w := Cond.laysFinal "RopeRoundModel" "RopeRoundModel" "ropes" "[I") 1008 (by decide +kernel) (by decide +kernel)
  | 28, _ => exact kt (w := Cond.laysFinal "RopeRoundModel" "RopeRoundModel" "steps" "[I") 1010 (by decide +kernel) (by decide +kernel)
  | 29, _ => exact kt (w := Cond.lays "RopeRoundModel" "RopeRoundModel" "inside" "J") 1012 (by decide +kernel) (by decide +kernel)
  | 30, _ => exact kt (w := Cond.laysFinal "RopeRoundModel" "RopeRoundModel" "bestWays" "[I") 1014 (by decide +kernel) (by decide +kernel)
  | 31, _ => exact kt (w := Cond.lays "RopeRoundModel" "RopeRoundModel" "bestSteps" "I") 1016 (by decide +kernel) (by decide +kernel)
  | 32, _ => exact kt (w := Cond.laysFinal "RopeRoundModel" "RopeRoundModel" "due" "[I") 1018 (by decide +kernel) (by decide +kernel)
  | 33, _ => exact kt (w := Cond.laysFinal "RopeRoundModel" "RopeRoundModel" "isKept" "[Z") 1020 (by decide +kernel) (by decide +kernel)
  | 34, _ => exact kt (w := Cond.laysFinal "RopeRoundModel" "RopeRoundModel" "kept" "[I") 1022 (by decide +kernel) (by decide +kernel)
  | 35, _ => exact kt (w := Cond.laysFinal "RopeRoundModel" "RopeRoundModel" "trace" "[I") 1024 (by decide +kernel) (by decide +kernel)
  | 36, _ => exact kt (w := Cond.lays "RopeRoundModel" "RopeRoundModel" "traced" "I") 1026 (by decide +kernel) (by decide +kernel)
  | k + 37, hk => exact absurd hk (by omega)
theorem okC11 : ClsOk 11 RC11 TC11 37 := by
  refine ⟨rfl, iC11, ⟨tyC11, fun k hk => ?_⟩, by decide +kernel, by decide, by decide⟩
  match k, hk with
  | 0, _ => exact ⟨by decide +kernel, Or.inr (Or.inl ⟨rfl, rfl⟩), fun h => absurd h (by decide), fun _ => rfl⟩
  | 1, _ => exact ⟨by decide +kernel, Or.inr (Or.inl ⟨rfl, rfl⟩), fun h => absurd h (by decide), fun _ => rfl⟩
  | 2, _ => exact ⟨by decide +kernel, Or.inr (Or.inr (Or.inr ⟨Or.inl rfl, Or.inr ⟨_, rfl⟩⟩)), fun _ => rfl, fun h => absurd rfl h⟩
  | 3, _ => exact ⟨by decide +kernel, Or.inr (Or.inr (Or.inr ⟨Or.inl rfl, Or.inr ⟨_, rfl⟩⟩)), fun _ => rfl, fun h => absurd rfl h⟩
  | 4, _ => exact ⟨by decide +kernel, Or.inr (Or.inr (Or.inr ⟨Or.inl rfl, Or.inr ⟨_, rfl⟩⟩)), fun _ => rfl, fun h => absurd rfl h⟩
  | 5, _ => exact ⟨by decide +kernel, Or.inr (Or.inr (Or.inr ⟨Or.inl rfl, Or.inr ⟨_, rfl⟩⟩)), fun _ => rfl, fun h => absurd rfl h⟩
  | 6, _ => exact ⟨by decide +kernel, Or.inr (Or.inr (Or.inr ⟨Or.inl rfl, Or.inr ⟨_, rfl⟩⟩)), fun _ => rfl, fun h => absurd rfl h⟩
  | 7, _ => exact ⟨by decide +kernel, Or.inr (Or.inr (Or.inl ⟨rfl, rfl⟩)), fun h => absurd h (by decide), fun _ => rfl⟩
  | 8, _ => exact ⟨by decide +kernel, Or.inr (Or.inr (Or.inr ⟨Or.inl rfl, Or.inr ⟨_, rfl⟩⟩)), fun _ => rfl, fun h => absurd rfl h⟩
  | 9, _ => exact ⟨by decide +kernel, Or.inr (Or.inl ⟨rfl, rfl⟩), fun h => absurd h (by decide), fun _ => rfl⟩
  | 10, _ => exact ⟨by decide +kernel, Or.inr (Or.inl ⟨rfl, rfl⟩), fun h => absurd h (by decide), fun _ => rfl⟩
  | 11, _ => exact ⟨by decide +kernel, Or.inr (Or.inl ⟨rfl, rfl⟩), fun h => absurd h (by decide), fun _ => rfl⟩
  | 12, _ => exact ⟨by decide +kernel, Or.inr (Or.inl ⟨rfl, rfl⟩), fun h => absurd h (by decide), fun _ => rfl⟩
  | 13, _ => exact ⟨by decide +kernel, Or.inr (Or.inl ⟨rfl, rfl⟩), fun h => absurd h (by decide), fun _ => rfl⟩
  | 14, _ => exact ⟨by decide +kernel, Or.inr (Or.inl ⟨rfl, rfl⟩), fun h => absurd h (by decide), fun _ => rfl⟩
  | 15, _ => exact ⟨by decide +kernel, Or.inr (Or.inl ⟨rfl, rfl⟩), fun h => absurd h (by decide), fun _ => rfl⟩
  | 16, _ => exact ⟨by decide +kernel, Or.inr (Or.inl ⟨rfl, rfl⟩), fun h => absurd h (by decide), fun _ => rfl⟩
  | 17, _ => exact ⟨by decide +kernel, Or.inr (Or.inl ⟨rfl, rfl⟩), fun h => absurd h (by decide), fun _ => rfl⟩
  | 18, _ => exact ⟨by decide +kernel, Or.inr (Or.inr (Or.inr ⟨Or.inl rfl, Or.inr ⟨_, rfl⟩⟩)), fun _ => rfl, fun h => absurd rfl h⟩
  | 19, _ => exact ⟨by decide +kernel, Or.inr (Or.inr (Or.inr ⟨Or.inl rfl, Or.inr ⟨_, rfl⟩⟩)), fun _ => rfl, fun h => absurd rfl h⟩
  | 20, _ => exact ⟨by decide +kernel, Or.inl ⟨rfl, rfl⟩, fun h => absurd h (by decide), fun _ => rfl⟩
  | 21, _ => exact ⟨by decide +kernel, Or.inr (Or.inr (Or.inr ⟨Or.inl rfl, Or.inr ⟨_, rfl⟩⟩)), fun _ => rfl, fun h => absurd rfl h⟩
  | 22, _ => exact ⟨by decide +kernel, Or.inr (Or.inr (Or.inr ⟨Or.inl rfl, Or.inr ⟨_, rfl⟩⟩)), fun _ => rfl, fun h => absurd rfl h⟩
  | 23, _ => exact ⟨by decide +kernel, Or.inr (Or.inr (Or.inr ⟨Or.inl rfl, Or.inr ⟨_, rfl⟩⟩)), fun _ => rfl, fun h => absurd rfl h⟩
  | 24, _ => exact ⟨by decide +kernel, Or.inr (Or.inr (Or.inr ⟨Or.inl rfl, Or.inr ⟨_, rfl⟩⟩)), fun _ => rfl, fun h => absurd rfl h⟩
  | 25, _ => exact ⟨by decide +kernel, Or.inr (Or.inr (Or.inr ⟨Or.inl rfl, Or.inr ⟨_, rfl⟩⟩)), fun _ => rfl, fun h => absurd rfl h⟩
  | 26, _ => exact ⟨by decide +kernel, Or.inr (Or.inr (Or.inr ⟨Or.inl rfl, Or.inr ⟨_, rfl⟩⟩)), fun _ => rfl, fun h => absurd rfl h⟩
  | 27, _ => exact ⟨by decide +kernel, Or.inr (Or.inr (Or.inr ⟨Or.inl rfl, Or.inr ⟨_, rfl⟩⟩)), fun _ => rfl, fun h => absurd rfl h⟩
  | 28, _ => exact ⟨by decide +kernel, Or.inr (Or.inr (Or.inr ⟨Or.inl rfl, Or.inr ⟨_, rfl⟩⟩)), fun _ => rfl, fun h => absurd rfl h⟩
  | 29, _ => exact ⟨by decide +kernel, Or.inl ⟨rfl, rfl⟩, fun h => absurd h (by decide), fun _ => rfl⟩
  | 30, _ => exact ⟨by decide +kernel, Or.inr (Or.inr (Or.inr ⟨Or.inl rfl, Or.inr ⟨_, rfl⟩⟩)), fun _ => rfl, fun h => absurd rfl h⟩
  | 31, _ => exact ⟨by decide +kernel, Or.inr (Or.inl ⟨rfl, rfl⟩), fun h => absurd h (by decide), fun _ => rfl⟩
  | 32, _ => exact ⟨by decide +kernel, Or.inr (Or.inr (Or.inr ⟨Or.inl rfl, Or.inr ⟨_, rfl⟩⟩)), fun _ => rfl, fun h => absurd rfl h⟩
  | 33, _ => exact ⟨by decide +kernel, Or.inr (Or.inr (Or.inr ⟨Or.inl rfl, Or.inr ⟨_, rfl⟩⟩)), fun _ => rfl, fun h => absurd rfl h⟩
  | 34, _ => exact ⟨by decide +kernel, Or.inr (Or.inr (Or.inr ⟨Or.inl rfl, Or.inr ⟨_, rfl⟩⟩)), fun _ => rfl, fun h => absurd rfl h⟩
  | 35, _ => exact ⟨by decide +kernel, Or.inr (Or.inr (Or.inr ⟨Or.inl rfl, Or.inr ⟨_, rfl⟩⟩)), fun _ => rfl, fun h => absurd rfl h⟩
  | 36, _ => exact ⟨by decide +kernel, Or.inr (Or.inl ⟨rfl, rfl⟩), fun h => absurd h (by decide), fun _ => rfl⟩
  | k + 37, hk => exact absurd hk (by omega)
theorem nwC11 : ClsNew RC11 37 := ⟨kt 912 (by decide +kernel) (by decide +kernel), kt 12 (by decide +kernel) (by decide +kernel)⟩
