/-! AN ABSTRACT MACHINE over a heap of fixed shape: what a method does, as a partial function; 'ev' is its fuel-free meaning -/
/-- ints, longs, changing references: by cell and place -/
abbrev aH : Type := (Nat → Nat → Int32) × (Nat → Nat → Int64) × (Nat → Nat → Option Nat)
/-- a cell's shape: its kind (a class' number; 100 and on: arrays), how many places, the references that never change -/
abbrev aE : Type := Nat × Nat × List (Option Nat)
abbrev aS : Type := List aE
abbrev aR : Type := Option Value × aS × aH
abbrev aN : Type := Nat × List Value × List Value × aS × aH
abbrev aC : Type := Nat × List Value × aN
abbrev aO : Type := Option (aN ⊕ (aR ⊕ aC))
abbrev aP : Type := Nat → List Value → List Value → aS → aH → aO
def aK (S : aS) (c : Nat) : Nat := (S.getD c (999, 0, [])).1
def aL (S : aS) (c : Nat) : Nat := (S.getD c (999, 0, [])).2.1
def aF (S : aS) (c k : Nat) : Option Nat := (S.getD c (999, 0, [])).2.2.getD k none
def sI (h : aH) (c k : Nat) (v : Int32) : aH := (fun c' k' => if c' = c ∧ k' = k then v else h.1 c' k', h.2.1, h.2.2)
def sL (h : aH) (c k : Nat) (v : Int64) : aH := (h.1, fun c' k' => if c' = c ∧ k' = k then v else h.2.1 c' k', h.2.2)
def sR (h : aH) (c k : Nat) (v : Option Nat) : aH := (h.1, h.2.1, fun c' k' => if c' = c ∧ k' = k then v else h.2.2 c' k')
/-- a cell that is new: all of it is as at first -/
def sZ (h : aH) (c : Nat) : aH := (fun c' k' => if c' = c then 0 else h.1 c' k', fun c' k' => if c' = c then 0 else h.2.1 c' k', fun c' k' => if c' = c then none else h.2.2 c' k')
def sCI (h : aH) (a b sp dp n : Nat) : aH := (fun c' k' => if c' = b then va_cpy (h.1 a) (h.1 b) sp dp n k' else h.1 c' k', h.2.1, h.2.2)
def sCL (h : aH) (a b sp dp n : Nat) : aH := (h.1, fun c' k' => if c' = b then va_cpy (h.2.1 a) (h.2.1 b) sp dp n k' else h.2.1 c' k', h.2.2)
/-- a reference that never changes is set (in a constructor) -/
def sF (S : aS) (c k : Nat) (v : Option Nat) : aS := S.modify c (fun e => (e.1, e.2.1, (e.2.2 ++ List.replicate (k + 1 - e.2.2.length) none).set k v))
/-- an index within -/
def inB (i : Int32) (n : Nat) : Prop := 0 ≤ i.toInt ∧ i.toInt < n
theorem inB_iff {i : Int32} {n : Nat} : inB i n ↔ vp_in i n := vp_in_iff.symm
noncomputable def gd {α : Type} (c : Prop) (x : Option α) : Option α := @ite _ c (Classical.propDecidable c) x none
theorem gd_pos {α : Type} {c : Prop} (h : c) (x : Option α) : gd c x = x := by unfold gd; exact if_pos h
theorem gd_neg {α : Type} {c : Prop} (h : ¬ c) (x : Option α) : gd c x = none := by unfold gd; exact if_neg h
theorem gd_true {α : Type} (x : Option α) : gd True x = x := gd_pos trivial x
theorem gd_some {α : Type} {c : Prop} {x : Option α} {y : α} (h : gd c x = some y) : c ∧ x = some y := by
  by_cases hc : c
  · rw [gd_pos hc] at h; exact ⟨hc, h⟩
  · rw [gd_neg hc] at h; cases h
noncomputable def br {α : Type} (c : Prop) (x y : α) : α := @ite _ c (Classical.propDecidable c) x y
theorem br_pos {α : Type} {c : Prop} (h : c) (x y : α) : br c x y = x := by unfold br; exact if_pos h
theorem br_neg {α : Type} {c : Prop} (h : ¬ c) (x y : α) : br c x y = y := by unfold br; exact if_neg h
theorem br_true {α : Type} (x y : α) : br True x y = x := br_pos trivial x y
theorem br_false {α : Type} (x y : α) : br False x y = y := br_neg (fun h => h) x y
theorem br_ite {α : Type} {c : Prop} {hd : Decidable c} (x y : α) : br c x y = if c then x else y := by
  by_cases hc : c
  · rw [br_pos hc, if_pos hc]
  · rw [br_neg hc, if_neg hc]
def lset1 (ls : List Value) (i : Nat) (v : Value) : List Value := (match i with
  | 0 => ls
  | j + 1 => if (ls.getD j .null).category = 2 then ls.set j .null else ls).set i v
def lset2 (ls : List Value) (i : Nat) (v : Value) : List Value := (lset1 ls i v).set (i + 1) .null
def oNx (n : Nat) (ls st : List Value) (S : aS) (h : aH) : aO := some (.inl (n, ls, st, S, h))
def oRt (v : Option Value) (S : aS) (h : aH) : aO := some (.inr (.inl (v, S, h)))
def oCl (y : Nat) (as : List Value) (n : Nat) (ls st : List Value) (S : aS) (h : aH) : aO := some (.inr (.inr (y, as, n, ls, st, S, h)))
/-! the instructions -/
def oPush (v : Value) (n : Nat) : aP := fun _ ls st S h => oNx n ls (v :: st) S h
def oLdI (i n : Nat) : aP := fun _ ls st S h => match ls[i]? with
  | some (.int x) => oNx n ls (.int x :: st) S h
  | _ => none
def oLdL (i n : Nat) : aP := fun _ ls st S h => match ls[i]? with
  | some (.long x) => oNx n ls (.long x :: st) S h
  | _ => none
def oLdA (i n : Nat) : aP := fun _ ls st S h => match ls[i]? with
  | some (.ref x) => oNx n ls (.ref x :: st) S h
  | _ => none
def oStI (i n : Nat) : aP := fun _ ls st S h => match st with
  | .int x :: st => oNx n (lset1 ls i (.int x)) st S h
  | _ => none
def oStL (i n : Nat) : aP := fun _ ls st S h => match st with
  | .long x :: st => oNx n (lset2 ls i (.long x)) st S h
  | _ => none
def oStA (i n : Nat) : aP := fun _ ls st S h => match st with
  | .ref x :: st => oNx n (lset1 ls i (.ref x)) st S h
  | _ => none
def oInc (i : Nat) (k : Int32) (n : Nat) : aP := fun _ ls st S h => match ls[i]? with
  | some (.int x) => oNx n (lset1 ls i (.int (x + k))) st S h
  | _ => none
def oII (f : Int32 → Int32 → Int32) (n : Nat) : aP := fun _ ls st S h => match st with
  | .int y :: .int x :: st => oNx n ls (.int (f x y) :: st) S h
  | _ => none
noncomputable def oIId (f : Int32 → Int32 → Int32) (n : Nat) : aP := fun _ ls st S h => match st with
  | .int y :: .int x :: st => gd (¬ y = 0) (oNx n ls (.int (f x y) :: st) S h)
  | _ => none
def oI (f : Int32 → Int32) (n : Nat) : aP := fun _ ls st S h => match st with
  | .int x :: st => oNx n ls (.int (f x) :: st) S h
  | _ => none
def oIL (f : Int32 → Int64) (n : Nat) : aP := fun _ ls st S h => match st with
  | .int x :: st => oNx n ls (.long (f x) :: st) S h
  | _ => none
def oLI (f : Int64 → Int32) (n : Nat) : aP := fun _ ls st S h => match st with
  | .long x :: st => oNx n ls (.int (f x) :: st) S h
  | _ => none
def oLL (f : Int64 → Int64 → Int64) (n : Nat) : aP := fun _ ls st S h => match st with
  | .long y :: .long x :: st => oNx n ls (.long (f x y) :: st) S h
  | _ => none
def oLSh (f : Int64 → Int32 → Int64) (n : Nat) : aP := fun _ ls st S h => match st with
  | .int y :: .long x :: st => oNx n ls (.long (f x y) :: st) S h
  | _ => none
def oLcmp (n : Nat) : aP := fun _ ls st S h => match st with
  | .long y :: .long x :: st => oNx n ls (.int (lg_cmp x y) :: st) S h
  | _ => none
noncomputable def oDup (n : Nat) : aP := fun _ ls st S h => match st with
  | v :: st => gd (v.category = 1) (oNx n ls (v :: v :: st) S h)
  | _ => none
noncomputable def oPop (n : Nat) : aP := fun _ ls st S h => match st with
  | v :: st => gd (v.category = 1) (oNx n ls st S h)
  | _ => none
noncomputable def oDup2 (n : Nat) : aP := fun _ ls st S h => match st with
  | v :: w :: st => gd (v.category = 1 ∧ w.category = 1) (oNx n ls (v :: w :: v :: w :: st) S h)
  | _ => none
noncomputable def oIf (P : Int32 → Prop) (t n : Nat) : aP := fun _ ls st S h => match st with
  | .int x :: st => br (P x) (oNx t ls st S h) (oNx n ls st S h)
  | _ => none
noncomputable def oIc (P : Int32 → Int32 → Prop) (t n : Nat) : aP := fun _ ls st S h => match st with
  | .int y :: .int x :: st => br (P x y) (oNx t ls st S h) (oNx n ls st S h)
  | _ => none
def oGo (t : Nat) : aP := fun _ ls st S h => oNx t ls st S h
noncomputable def oSw (lo hi : Int) (ts : List Nat) (d : Nat) : aP := fun _ ls st S h => match st with
  | .int x :: st => br (x.toInt < lo ∨ hi < x.toInt) (oNx d ls st S h) (match ts[(x.toInt - lo).toNat]? with
    | some t => oNx t ls st S h
    | none => none)
  | _ => none
def oRetI : aP := fun _ _ st S h => match st with
  | [.int x] => oRt (some (.int x)) S h
  | _ => none
noncomputable def oRetN (ty : FieldType) : aP := fun _ _ st S h => match st with
  | [.int x] => gd (vp_nar ty x = x) (oRt (some (.int x)) S h)
  | _ => none
def oRetL : aP := fun _ _ st S h => match st with
  | [.long x] => oRt (some (.long x)) S h
  | _ => none
def oRetV : aP := fun _ _ st S h => match st with
  | [] => oRt none S h
  | _ => none
noncomputable def oGetI (P : Nat → Prop) (k n : Nat) : aP := fun _ ls st S h => match st with
  | .ref c :: st => gd (P (aK S c)) (oNx n ls (.int (h.1 c k) :: st) S h)
  | _ => none
noncomputable def oGetL (P : Nat → Prop) (k n : Nat) : aP := fun _ ls st S h => match st with
  | .ref c :: st => gd (P (aK S c)) (oNx n ls (.long (h.2.1 c k) :: st) S h)
  | _ => none
noncomputable def oGetF (P : Nat → Prop) (k n : Nat) : aP := fun _ ls st S h => match st with
  | .ref c :: st => gd (P (aK S c)) (oNx n ls (va_rf (aF S c k) :: st) S h)
  | _ => none
noncomputable def oGetD (P : Nat → Prop) (k n : Nat) : aP := fun _ ls st S h => match st with
  | .ref c :: st => gd (P (aK S c)) (oNx n ls (va_rf (h.2.2 c k) :: st) S h)
  | _ => none
noncomputable def oPutI (P : Nat → Prop) (k n : Nat) : aP := fun _ ls st S h => match st with
  | .int x :: .ref c :: st => gd (P (aK S c)) (oNx n ls st S (sI h c k x))
  | _ => none
noncomputable def oPutZ (P : Nat → Prop) (k n : Nat) : aP := fun _ ls st S h => match st with
  | .int x :: .ref c :: st => gd (P (aK S c) ∧ (x = 0 ∨ x = 1)) (oNx n ls st S (sI h c k x))
  | _ => none
noncomputable def oPutL (P : Nat → Prop) (k n : Nat) : aP := fun _ ls st S h => match st with
  | .long x :: .ref c :: st => gd (P (aK S c)) (oNx n ls st S (sL h c k x))
  | _ => none
noncomputable def oPutF (P : Nat → Prop) (k n : Nat) : aP := fun _ ls st S h => match st with
  | .ref x :: .ref c :: st => gd (P (aK S c)) (oNx n ls st (sF S c k (some x)) h)
  | _ => none
noncomputable def oPutD (P : Nat → Prop) (k n : Nat) : aP := fun _ ls st S h => match st with
  | .ref x :: .ref c :: st => gd (P (aK S c)) (oNx n ls st S (sR h c k (some x)))
  | _ => none
noncomputable def oALdI (n : Nat) : aP := fun _ ls st S h => match st with
  | .int i :: .ref c :: st => gd (aK S c = 100 ∨ aK S c = 200) (gd (inB i (aL S c)) (oNx n ls (.int (h.1 c i.toNatClampNeg) :: st) S h))
  | _ => none
noncomputable def oALdB (n : Nat) : aP := fun _ ls st S h => match st with
  | .int i :: .ref c :: st => gd (aK S c = 101 ∨ aK S c = 102 ∨ aK S c = 202) (gd (inB i (aL S c)) (oNx n ls (.int (h.1 c i.toNatClampNeg) :: st) S h))
  | _ => none
noncomputable def oALdL (n : Nat) : aP := fun _ ls st S h => match st with
  | .int i :: .ref c :: st => gd (aK S c = 103) (gd (inB i (aL S c)) (oNx n ls (.long (h.2.1 c i.toNatClampNeg) :: st) S h))
  | _ => none
noncomputable def oALdA (n : Nat) : aP := fun _ ls st S h => match st with
  | .int i :: .ref c :: st => gd (aK S c = 104 ∨ aK S c = 105) (gd (inB i (aL S c)) (oNx n ls (va_rf (aF S c i.toNatClampNeg) :: st) S h))
  | _ => none
noncomputable def oAStI (n : Nat) : aP := fun _ ls st S h => match st with
  | .int x :: .int i :: .ref c :: st => gd (aK S c = 100) (gd (inB i (aL S c)) (oNx n ls st S (sI h c i.toNatClampNeg x)))
  | _ => none
noncomputable def oAStB (n : Nat) : aP := fun _ ls st S h => match st with
  | .int x :: .int i :: .ref c :: st => gd (aK S c = 101 ∨ aK S c = 102) (gd (inB i (aL S c)) (oNx n ls st S (sI h c i.toNatClampNeg (br (aK S c = 101) (vp_nar .byte x) (vp_nar .boolean x)))))
  | _ => none
noncomputable def oAStL (n : Nat) : aP := fun _ ls st S h => match st with
  | .long x :: .int i :: .ref c :: st => gd (aK S c = 103) (gd (inB i (aL S c)) (oNx n ls st S (sL h c i.toNatClampNeg x)))
  | _ => none
noncomputable def oAStA (n : Nat) : aP := fun _ ls st S h => match st with
  | .ref x :: .int i :: .ref c :: st => gd ((aK S c = 104 ∧ aK S x = 6) ∨ (aK S c = 105 ∧ aK S x = 3)) (gd (inB i (aL S c)) (oNx n ls st (sF S c i.toNatClampNeg (some x)) h))
  | _ => none
noncomputable def oLen (n : Nat) : aP := fun _ ls st S h => match st with
  | .ref c :: st => gd (100 ≤ aK S c ∧ aK S c ≤ 202 ∧ ¬ aK S c = 201) (oNx n ls (.int (Int32.ofNat (aL S c)) :: st) S h)
  | _ => none
/-- a new object of a class of N fields -/
def oNew (ci N n : Nat) : aP := fun _ ls st S h => oNx n ls (.ref S.length :: st) (S ++ [(ci, N, [])]) (sZ h S.length)
noncomputable def oNewA (ty n : Nat) : aP := fun _ ls st S h => match st with
  | .int x :: st => gd (0 ≤ x.toInt ∧ x.toInt ≤ 2000) (oNx n ls (.ref S.length :: st) (S ++ [(ty, x.toNatClampNeg, [])]) (sZ h S.length))
  | _ => none
noncomputable def oObj (n : Nat) : aP := fun d ls st S h => match st with
  | .ref _ :: st => gd (¬ d = 0 ∧ (st.map fun v => v.category).sum ≤ 8) (oNx n ls st S h)
  | _ => none
noncomputable def oCopy (n : Nat) : aP := fun d ls st S h => match st with
  | .int k :: .int dp :: .ref b :: .int sp :: .ref a :: st => gd (¬ d = 0 ∧ (st.map fun v => v.category).sum ≤ 8 ∧ ((aK S a = 100 ∧ aK S b = 100) ∨ (aK S a = 103 ∧ aK S b = 103)))
      (gd (0 ≤ sp.toInt ∧ 0 ≤ dp.toInt ∧ 0 ≤ k.toInt ∧ sp.toInt + k.toInt ≤ aL S a ∧ dp.toInt + k.toInt ≤ aL S b)
        (oNx n ls st S (br (aK S a = 100) (sCI h a b sp.toNatClampNeg dp.toNatClampNeg k.toNatClampNeg) (sCL h a b sp.toNatClampNeg dp.toNatClampNeg k.toNatClampNeg))))
  | _ => none
/-- a call without a receiver that matters for the choice: static, private, a constructor; a arguments on the stack, the receiver among them -/
noncomputable def oCall (y a n : Nat) : aP := fun _ ls st S h => gd (a ≤ st.length ∧ ((st.drop a).map fun v => v.category).sum ≤ 8) (oCl y (st.take a).reverse n ls (st.drop a) S h)
/-- a call by the receiver's class -/
noncomputable def oCalV (f : Nat → Option Nat) (a n : Nat) : aP := fun _ ls st S h => match st[a]? with
  | some (.ref c) => match f (aK S c) with
    | some y => gd (((st.drop (a + 1)).map fun v => v.category).sum ≤ 8) (oCl y (.ref c :: (st.take a).reverse) n ls (st.drop (a + 1)) S h)
    | none => none
  | _ => none
noncomputable def oStrC (n : Nat) : aP := fun _ ls st S h => match st with
  | .ref c :: st => gd (aK S c = 201) (oNx n ls (.int 0 :: st) S h)
  | _ => none
noncomputable def oStrV (n : Nat) : aP := fun _ ls st S h => match st with
  | .ref c :: st => gd (aK S c = 201) (oNx n ls (.ref (c + 3) :: st) S h)
  | _ => none
/-! runs -/
def entL (mx : Nat) (as : List Value) : List Value := (as.flatMap fun v => if v.category = 2 then [v, .null] else [v]) ++ List.replicate (mx - (as.flatMap fun v => if v.category = 2 then [v, .null] else [v]).length) .null
def wds (as : List Value) : Nat := (as.map fun v => v.category).sum
noncomputable def runG (pg : Nat → Nat → Option aP) (mx : Nat → Nat) : Nat → Nat → Nat → Nat → List Value → List Value → aS → aH → Option aR
  | 0, _, _, _, _, _, _, _ => none
  | k + 1, d, m, pc, ls, st, S, h => match pg m pc with
    | none => none
    | some op => match op d ls st S h with
      | none => none
      | some (.inl (n, ls', st', S', h')) => runG pg mx k d m n ls' st' S' h'
      | some (.inr (.inl r)) => some r
      | some (.inr (.inr (y, as, n, ls', st', S', h'))) => match d with
        | 0 => none
        | d' + 1 => match gd (wds as ≤ mx y) (runG pg mx k d' y 0 (entL (mx y) as) [] S' h') with
          | none => none
          | some (v, S2, h2) => runG pg mx k (d' + 1) m n ls' (v.toList ++ st') S2 h2
theorem runG_mono (pg : Nat → Nat → Option aP) (mx : Nat → Nat) : ∀ (k d m pc : Nat) (ls st : List Value) (S : aS) (h : aH) (r : aR), runG pg mx k d m pc ls st S h = some r → runG pg mx (k + 1) d m pc ls st S h = some r := by
  intro k
  induction k with
  | zero => intro d m pc ls st S h r hr; simp [runG] at hr
  | succ k ih =>
    intro d m pc ls st S h r hr
    rw [runG] at hr ⊢
    cases hp : pg m pc with
    | none => rw [hp] at hr; cases hr
    | some op =>
      rw [hp] at hr
      dsimp only at hr ⊢
      cases ho : op d ls st S h with
      | none => rw [ho] at hr; cases hr
      | some o =>
        rw [ho] at hr
        match o, hr with
        | .inl (n, ls', st', S', h'), hr => exact ih _ _ _ _ _ _ _ _ hr
        | .inr (.inl r'), hr => exact hr
        | .inr (.inr (y, as, n, ls', st', S', h')), hr =>
          cases d with
          | zero => cases hr
          | succ d' =>
            dsimp only at hr ⊢
            by_cases hw : wds as ≤ mx y
            · rw [gd_pos hw] at hr ⊢
              cases hc : runG pg mx k d' y 0 (entL (mx y) as) [] S' h' with
              | none => rw [hc] at hr; cases hr
              | some q =>
                rw [hc] at hr
                rw [ih _ _ _ _ _ _ _ _ hc]
                obtain ⟨v, S2, h2⟩ := q
                exact ih _ _ _ _ _ _ _ _ hr
            · rw [gd_neg hw] at hr; cases hr
theorem runG_le (pg : Nat → Nat → Option aP) (mx : Nat → Nat) {k k' d m pc : Nat} {ls st : List Value} {S : aS} {h : aH} {r : aR} (hk : k ≤ k') (hr : runG pg mx k d m pc ls st S h = some r) : runG pg mx k' d m pc ls st S h = some r := by
  induction hk with
  | refl => exact hr
  | step _ ih => exact runG_mono pg mx _ _ _ _ _ _ _ _ _ ih
noncomputable def evG (pg : Nat → Nat → Option aP) (mx : Nat → Nat) (d m pc : Nat) (ls st : List Value) (S : aS) (h : aH) : Option aR :=
  @dite _ (∃ k r, runG pg mx k d m pc ls st S h = some r) (Classical.propDecidable _) (fun e => some (Classical.choose (Classical.choose_spec e))) (fun _ => none)
theorem evG_of (pg : Nat → Nat → Option aP) (mx : Nat → Nat) {k d m pc : Nat} {ls st : List Value} {S : aS} {h : aH} {r : aR} (hr : runG pg mx k d m pc ls st S h = some r) : evG pg mx d m pc ls st S h = some r := by
  have e : ∃ k r, runG pg mx k d m pc ls st S h = some r := ⟨k, r, hr⟩
  unfold evG
  rw [dif_pos e]
  have h2 := Classical.choose_spec (Classical.choose_spec e)
  have h3 := runG_le pg mx (Nat.le_max_left k (Classical.choose e)) hr
  have h4 := runG_le pg mx (Nat.le_max_right k (Classical.choose e)) h2
  rw [h3] at h4
  exact h4.symm
theorem evG_run (pg : Nat → Nat → Option aP) (mx : Nat → Nat) {d m pc : Nat} {ls st : List Value} {S : aS} {h : aH} {r : aR} (hr : evG pg mx d m pc ls st S h = some r) : ∃ k, runG pg mx k d m pc ls st S h = some r := by
  unfold evG at hr
  by_cases e : ∃ k r, runG pg mx k d m pc ls st S h = some r
  · rw [dif_pos e] at hr
    have h2 := Classical.choose_spec (Classical.choose_spec e)
    rw [← hr]
    exact ⟨_, h2⟩
  · rw [dif_neg e] at hr; cases hr
theorem evG_none (pg : Nat → Nat → Option aP) (mx : Nat → Nat) {d m pc : Nat} {ls st : List Value} {S : aS} {h : aH} (hn : ∀ k r, runG pg mx k d m pc ls st S h ≠ some r) : evG pg mx d m pc ls st S h = none := by
  unfold evG
  rw [dif_neg (fun ⟨k, r, e⟩ => hn k r e)]
/-- what an instruction's outcome leads to -/
noncomputable def bOG (pg : Nat → Nat → Option aP) (mx : Nat → Nat) (d m : Nat) (o : aO) : Option aR := match o with
  | none => none
  | some (.inl (n, ls', st', S', h')) => evG pg mx d m n ls' st' S' h'
  | some (.inr (.inl r)) => some r
  | some (.inr (.inr (y, as, n, ls', st', S', h'))) => match d with
    | 0 => none
    | d' + 1 => match gd (wds as ≤ mx y) (evG pg mx d' y 0 (entL (mx y) as) [] S' h') with
      | none => none
      | some (v, S2, h2) => evG pg mx (d' + 1) m n ls' (v.toList ++ st') S2 h2
theorem evG_unf (pg : Nat → Nat → Option aP) (mx : Nat → Nat) {m pc : Nat} {op : aP} (hp : pg m pc = some op) (d : Nat) (ls st : List Value) (S : aS) (h : aH) : evG pg mx d m pc ls st S h = bOG pg mx d m (op d ls st S h) := by
  cases hx : bOG pg mx d m (op d ls st S h) with
  | some r =>
    cases ho : op d ls st S h with
    | none => rw [ho] at hx; cases hx
    | some o =>
      rw [ho] at hx
      match o, ho, hx with
      | .inl (n, ls', st', S', h'), ho, hx =>
        obtain ⟨k, hk⟩ := evG_run pg mx hx
        refine evG_of pg mx (k := k + 1) ?_
        rw [runG, hp]; dsimp only; rw [ho]; exact hk
      | .inr (.inl r'), ho, hx =>
        refine evG_of pg mx (k := 1) ?_
        rw [runG, hp]; dsimp only; rw [ho]; exact hx
      | .inr (.inr (y, as, n, ls', st', S', h')), ho, hx =>
        cases d with
        | zero => cases hx
        | succ d' =>
          dsimp only [bOG] at hx
          by_cases hw : wds as ≤ mx y
          · rw [gd_pos hw] at hx
            cases hc : evG pg mx d' y 0 (entL (mx y) as) [] S' h' with
            | none => rw [hc] at hx; cases hx
            | some q =>
              rw [hc] at hx
              obtain ⟨v, S2, h2⟩ := q
              obtain ⟨k1, hk1⟩ := evG_run pg mx hc
              obtain ⟨k2, hk2⟩ := evG_run pg mx hx
              refine evG_of pg mx (k := max k1 k2 + 1) ?_
              rw [runG, hp]; dsimp only; rw [ho]; dsimp only
              rw [gd_pos hw, runG_le pg mx (Nat.le_max_left k1 k2) hk1]
              exact runG_le pg mx (Nat.le_max_right k1 k2) hk2
          · rw [gd_neg hw] at hx; cases hx
  | none =>
    refine evG_none pg mx (fun k r hr => ?_)
    cases k with
    | zero => simp [runG] at hr
    | succ k =>
      rw [runG, hp] at hr; dsimp only at hr
      cases ho : op d ls st S h with
      | none => rw [ho] at hr; cases hr
      | some o =>
        rw [ho] at hr hx
        match o, hr, hx with
        | .inl (n, ls', st', S', h'), hr, hx =>
          have := evG_of pg mx hr
          dsimp only [bOG] at hx
          rw [this] at hx; cases hx
        | .inr (.inl r'), hr, hx => cases hx
        | .inr (.inr (y, as, n, ls', st', S', h')), hr, hx =>
          cases d with
          | zero => cases hr
          | succ d' =>
            dsimp only [bOG] at hr hx
            by_cases hw : wds as ≤ mx y
            · rw [gd_pos hw] at hr hx
              cases hc : runG pg mx k d' y 0 (entL (mx y) as) [] S' h' with
              | none => rw [hc] at hr; cases hr
              | some q =>
                rw [hc] at hr
                rw [evG_of pg mx hc] at hx
                obtain ⟨v, S2, h2⟩ := q
                dsimp only at hr hx
                rw [evG_of pg mx hr] at hx; cases hx
            · rw [gd_neg hw] at hr; cases hr
