/-! how ev is rewritten, an instruction at a time -/
def cs (st : List Value) : Nat := (st.map fun v => v.category).sum
theorem cs_nil : cs [] = 0 := rfl
theorem cs_int (x : Int32) (st : List Value) : cs (.int x :: st) = cs st + 1 := by simp [cs, Value.category]; omega
theorem cs_ref (x : Nat) (st : List Value) : cs (.ref x :: st) = cs st + 1 := by simp [cs, Value.category]; omega
theorem cs_long (x : Int64) (st : List Value) : cs (.long x :: st) = cs st + 2 := by simp [cs, Value.category]; omega
noncomputable def call (d y : Nat) (as : List Value) (S : aS) (h : aH) : Option aR := gd (wds as ≤ mxT y) (ev d y 0 (entL (mxT y) as) [] S h)
theorem bO_nx (d m n : Nat) (ls st : List Value) (S : aS) (h : aH) : bO d m (oNx n ls st S h) = ev d m n ls st S h := rfl
theorem bO_gd (d m : Nat) (c : Prop) (o : aO) : bO d m (gd c o) = gd c (bO d m o) := by
  by_cases hc : c
  · rw [gd_pos hc, gd_pos hc]
  · rw [gd_neg hc, gd_neg hc]; rfl
theorem bO_br (d m : Nat) (c : Prop) (o o' : aO) : bO d m (br c o o') = br c (bO d m o) (bO d m o') := by
  by_cases hc : c
  · rw [br_pos hc, br_pos hc]
  · rw [br_neg hc, br_neg hc]
theorem bO_cl (d m y : Nat) (as : List Value) (n : Nat) (ls st : List Value) (S : aS) (h : aH) : bO (d + 1) m (oCl y as n ls st S h) = (call d y as S h).bind (fun r => ev (d + 1) m n ls (r.1.toList ++ st) r.2.1 r.2.2) := by
  show (match gd (wds as ≤ mxT y) (evG pgT mxT d y 0 (entL (mxT y) as) [] S h) with
      | none => none
      | some (v, S2, h2) => evG pgT mxT (d + 1) m n ls (v.toList ++ st) S2 h2) = _
  unfold call ev
  cases gd (wds as ≤ mxT y) (evG pgT mxT d y 0 (entL (mxT y) as) [] S h) with
  | none => rfl
  | some r => rfl
section U
variable {m pc : Nat}
theorem u_Push {v : Value} {n : Nat} (hp : pgT m pc = some (oPush v n)) (d : Nat) (ls st : List Value) (S : aS) (h : aH) : ev d m pc ls st S h = ev d m n ls (v :: st) S h := ev_unf hp d ls st S h
theorem u_LdI {i n : Nat} (hp : pgT m pc = some (oLdI i n)) {ls : List Value} {x : Int32} (hl : ls[i]? = some (.int x)) (d : Nat) (st : List Value) (S : aS) (h : aH) : ev d m pc ls st S h = ev d m n ls (.int x :: st) S h := by rw [ev_unf hp]; unfold oLdI; rw [hl]; rfl
theorem u_LdL {i n : Nat} (hp : pgT m pc = some (oLdL i n)) {ls : List Value} {x : Int64} (hl : ls[i]? = some (.long x)) (d : Nat) (st : List Value) (S : aS) (h : aH) : ev d m pc ls st S h = ev d m n ls (.long x :: st) S h := by rw [ev_unf hp]; unfold oLdL; rw [hl]; rfl
theorem u_LdA {i n : Nat} (hp : pgT m pc = some (oLdA i n)) {ls : List Value} {x : Nat} (hl : ls[i]? = some (.ref x)) (d : Nat) (st : List Value) (S : aS) (h : aH) : ev d m pc ls st S h = ev d m n ls (.ref x :: st) S h := by rw [ev_unf hp]; unfold oLdA; rw [hl]; rfl
theorem u_StI {i n : Nat} (hp : pgT m pc = some (oStI i n)) (d : Nat) (ls : List Value) (x : Int32) (st : List Value) (S : aS) (h : aH) : ev d m pc ls (.int x :: st) S h = ev d m n (lset1 ls i (.int x)) st S h := ev_unf hp d ls _ S h
theorem u_StL {i n : Nat} (hp : pgT m pc = some (oStL i n)) (d : Nat) (ls : List Value) (x : Int64) (st : List Value) (S : aS) (h : aH) : ev d m pc ls (.long x :: st) S h = ev d m n (lset2 ls i (.long x)) st S h := ev_unf hp d ls _ S h
theorem u_StA {i n : Nat} (hp : pgT m pc = some (oStA i n)) (d : Nat) (ls : List Value) (x : Nat) (st : List Value) (S : aS) (h : aH) : ev d m pc ls (.ref x :: st) S h = ev d m n (lset1 ls i (.ref x)) st S h := ev_unf hp d ls _ S h
theorem u_Inc {i n : Nat} {k : Int32} (hp : pgT m pc = some (oInc i k n)) {ls : List Value} {x : Int32} (hl : ls[i]? = some (.int x)) (d : Nat) (st : List Value) (S : aS) (h : aH) : ev d m pc ls st S h = ev d m n (lset1 ls i (.int (x + k))) st S h := by rw [ev_unf hp]; unfold oInc; rw [hl]; rfl
theorem u_II {f : Int32 → Int32 → Int32} {n : Nat} (hp : pgT m pc = some (oII f n)) (d : Nat) (ls : List Value) (y x : Int32) (st : List Value) (S : aS) (h : aH) : ev d m pc ls (.int y :: .int x :: st) S h = ev d m n ls (.int (f x y) :: st) S h := ev_unf hp d ls _ S h
theorem u_IId {f : Int32 → Int32 → Int32} {n : Nat} (hp : pgT m pc = some (oIId f n)) (d : Nat) (ls : List Value) (y x : Int32) (st : List Value) (S : aS) (h : aH) : ev d m pc ls (.int y :: .int x :: st) S h = gd (¬ y = 0) (ev d m n ls (.int (f x y) :: st) S h) := (ev_unf hp d ls _ S h).trans (bO_gd ..)
theorem u_I {f : Int32 → Int32} {n : Nat} (hp : pgT m pc = some (oI f n)) (d : Nat) (ls : List Value) (x : Int32) (st : List Value) (S : aS) (h : aH) : ev d m pc ls (.int x :: st) S h = ev d m n ls (.int (f x) :: st) S h := ev_unf hp d ls _ S h
theorem u_IL {f : Int32 → Int64} {n : Nat} (hp : pgT m pc = some (oIL f n)) (d : Nat) (ls : List Value) (x : Int32) (st : List Value) (S : aS) (h : aH) : ev d m pc ls (.int x :: st) S h = ev d m n ls (.long (f x) :: st) S h := ev_unf hp d ls _ S h
theorem u_LI {f : Int64 → Int32} {n : Nat} (hp : pgT m pc = some (oLI f n)) (d : Nat) (ls : List Value) (x : Int64) (st : List Value) (S : aS) (h : aH) : ev d m pc ls (.long x :: st) S h = ev d m n ls (.int (f x) :: st) S h := ev_unf hp d ls _ S h
theorem u_LL {f : Int64 → Int64 → Int64} {n : Nat} (hp : pgT m pc = some (oLL f n)) (d : Nat) (ls : List Value) (y x : Int64) (st : List Value) (S : aS) (h : aH) : ev d m pc ls (.long y :: .long x :: st) S h = ev d m n ls (.long (f x y) :: st) S h := ev_unf hp d ls _ S h
theorem u_LSh {f : Int64 → Int32 → Int64} {n : Nat} (hp : pgT m pc = some (oLSh f n)) (d : Nat) (ls : List Value) (y : Int32) (x : Int64) (st : List Value) (S : aS) (h : aH) : ev d m pc ls (.int y :: .long x :: st) S h = ev d m n ls (.long (f x y) :: st) S h := ev_unf hp d ls _ S h
theorem u_Lcmp {n : Nat} (hp : pgT m pc = some (oLcmp n)) (d : Nat) (ls : List Value) (y x : Int64) (st : List Value) (S : aS) (h : aH) : ev d m pc ls (.long y :: .long x :: st) S h = ev d m n ls (.int (lg_cmp x y) :: st) S h := ev_unf hp d ls _ S h
theorem u_DupI {n : Nat} (hp : pgT m pc = some (oDup n)) (d : Nat) (ls : List Value) (x : Int32) (st : List Value) (S : aS) (h : aH) : ev d m pc ls (.int x :: st) S h = ev d m n ls (.int x :: .int x :: st) S h := (ev_unf hp d ls _ S h).trans ((bO_gd ..).trans (gd_pos rfl _))
theorem u_DupA {n : Nat} (hp : pgT m pc = some (oDup n)) (d : Nat) (ls : List Value) (x : Nat) (st : List Value) (S : aS) (h : aH) : ev d m pc ls (.ref x :: st) S h = ev d m n ls (.ref x :: .ref x :: st) S h := (ev_unf hp d ls _ S h).trans ((bO_gd ..).trans (gd_pos rfl _))
theorem u_PopI {n : Nat} (hp : pgT m pc = some (oPop n)) (d : Nat) (ls : List Value) (x : Int32) (st : List Value) (S : aS) (h : aH) : ev d m pc ls (.int x :: st) S h = ev d m n ls st S h := (ev_unf hp d ls _ S h).trans ((bO_gd ..).trans (gd_pos rfl _))
theorem u_Dup2 {n : Nat} (hp : pgT m pc = some (oDup2 n)) (d : Nat) (ls : List Value) (x : Int32) (c : Nat) (st : List Value) (S : aS) (h : aH) : ev d m pc ls (.int x :: .ref c :: st) S h = ev d m n ls (.int x :: .ref c :: .int x :: .ref c :: st) S h := (ev_unf hp d ls _ S h).trans ((bO_gd ..).trans (gd_pos ⟨rfl, rfl⟩ _))
theorem u_If {P : Int32 → Prop} {t n : Nat} (hp : pgT m pc = some (oIf P t n)) (d : Nat) (ls : List Value) (x : Int32) (st : List Value) (S : aS) (h : aH) : ev d m pc ls (.int x :: st) S h = br (P x) (ev d m t ls st S h) (ev d m n ls st S h) := (ev_unf hp d ls _ S h).trans (bO_br ..)
theorem u_Ic {P : Int32 → Int32 → Prop} {t n : Nat} (hp : pgT m pc = some (oIc P t n)) (d : Nat) (ls : List Value) (y x : Int32) (st : List Value) (S : aS) (h : aH) : ev d m pc ls (.int y :: .int x :: st) S h = br (P x y) (ev d m t ls st S h) (ev d m n ls st S h) := (ev_unf hp d ls _ S h).trans (bO_br ..)
theorem u_Go {t : Nat} (hp : pgT m pc = some (oGo t)) (d : Nat) (ls st : List Value) (S : aS) (h : aH) : ev d m pc ls st S h = ev d m t ls st S h := ev_unf hp d ls st S h
theorem u_Sw {lo hi : Int} {ts : List Nat} {t : Nat} (hp : pgT m pc = some (oSw lo hi ts t)) (d : Nat) (ls : List Value) (x : Int32) (st : List Value) (S : aS) (h : aH) : ev d m pc ls (.int x :: st) S h = br (x.toInt < lo ∨ hi < x.toInt) (ev d m t ls st S h) (match ts[(x.toInt - lo).toNat]? with
    | some q => ev d m q ls st S h
    | none => none) := by
  rw [ev_unf hp]
  show bO d m (br _ _ _) = _
  rw [bO_br]
  congr 1
  cases ts[(x.toInt - lo).toNat]? <;> rfl
theorem u_RetI (hp : pgT m pc = some oRetI) (d : Nat) (ls : List Value) (x : Int32) (S : aS) (h : aH) : ev d m pc ls [.int x] S h = some (some (.int x), S, h) := ev_unf hp d ls _ S h
theorem u_RetN {ty : FieldType} (hp : pgT m pc = some (oRetN ty)) (d : Nat) (ls : List Value) (x : Int32) (S : aS) (h : aH) : ev d m pc ls [.int x] S h = gd (vp_nar ty x = x) (some (some (.int x), S, h)) := (ev_unf hp d ls _ S h).trans (bO_gd ..)
theorem u_RetL (hp : pgT m pc = some oRetL) (d : Nat) (ls : List Value) (x : Int64) (S : aS) (h : aH) : ev d m pc ls [.long x] S h = some (some (.long x), S, h) := ev_unf hp d ls _ S h
theorem u_RetV (hp : pgT m pc = some oRetV) (d : Nat) (ls : List Value) (S : aS) (h : aH) : ev d m pc ls [] S h = some (none, S, h) := ev_unf hp d ls _ S h
theorem u_GetI {P : Nat → Prop} {k n : Nat} (hp : pgT m pc = some (oGetI P k n)) (d : Nat) (ls : List Value) (c : Nat) (st : List Value) (S : aS) (h : aH) : ev d m pc ls (.ref c :: st) S h = gd (P (aK S c)) (ev d m n ls (.int (h.1 c k) :: st) S h) := (ev_unf hp d ls _ S h).trans (bO_gd ..)
theorem u_GetL {P : Nat → Prop} {k n : Nat} (hp : pgT m pc = some (oGetL P k n)) (d : Nat) (ls : List Value) (c : Nat) (st : List Value) (S : aS) (h : aH) : ev d m pc ls (.ref c :: st) S h = gd (P (aK S c)) (ev d m n ls (.long (h.2.1 c k) :: st) S h) := (ev_unf hp d ls _ S h).trans (bO_gd ..)
theorem u_GetF {P : Nat → Prop} {k n : Nat} (hp : pgT m pc = some (oGetF P k n)) (d : Nat) (ls : List Value) (c : Nat) (st : List Value) (S : aS) (h : aH) : ev d m pc ls (.ref c :: st) S h = gd (P (aK S c)) (ev d m n ls (va_rf (aF S c k) :: st) S h) := (ev_unf hp d ls _ S h).trans (bO_gd ..)
theorem u_GetD {P : Nat → Prop} {k n : Nat} (hp : pgT m pc = some (oGetD P k n)) (d : Nat) (ls : List Value) (c : Nat) (st : List Value) (S : aS) (h : aH) : ev d m pc ls (.ref c :: st) S h = gd (P (aK S c)) (ev d m n ls (va_rf (h.2.2 c k) :: st) S h) := (ev_unf hp d ls _ S h).trans (bO_gd ..)
theorem u_PutI {P : Nat → Prop} {k n : Nat} (hp : pgT m pc = some (oPutI P k n)) (d : Nat) (ls : List Value) (x : Int32) (c : Nat) (st : List Value) (S : aS) (h : aH) : ev d m pc ls (.int x :: .ref c :: st) S h = gd (P (aK S c)) (ev d m n ls st S (sI h c k x)) := (ev_unf hp d ls _ S h).trans (bO_gd ..)
theorem u_PutZ {P : Nat → Prop} {k n : Nat} (hp : pgT m pc = some (oPutZ P k n)) (d : Nat) (ls : List Value) (x : Int32) (c : Nat) (st : List Value) (S : aS) (h : aH) : ev d m pc ls (.int x :: .ref c :: st) S h = gd (P (aK S c) ∧ (x = 0 ∨ x = 1)) (ev d m n ls st S (sI h c k x)) := (ev_unf hp d ls _ S h).trans (bO_gd ..)
theorem u_PutL {P : Nat → Prop} {k n : Nat} (hp : pgT m pc = some (oPutL P k n)) (d : Nat) (ls : List Value) (x : Int64) (c : Nat) (st : List Value) (S : aS) (h : aH) : ev d m pc ls (.long x :: .ref c :: st) S h = gd (P (aK S c)) (ev d m n ls st S (sL h c k x)) := (ev_unf hp d ls _ S h).trans (bO_gd ..)
theorem u_PutF {P : Nat → Prop} {k n : Nat} (hp : pgT m pc = some (oPutF P k n)) (d : Nat) (ls : List Value) (x : Nat) (c : Nat) (st : List Value) (S : aS) (h : aH) : ev d m pc ls (.ref x :: .ref c :: st) S h = gd (P (aK S c)) (ev d m n ls st (sF S c k (some x)) h) := (ev_unf hp d ls _ S h).trans (bO_gd ..)
theorem u_PutD {P : Nat → Prop} {k n : Nat} (hp : pgT m pc = some (oPutD P k n)) (d : Nat) (ls : List Value) (x : Nat) (c : Nat) (st : List Value) (S : aS) (h : aH) : ev d m pc ls (.ref x :: .ref c :: st) S h = gd (P (aK S c)) (ev d m n ls st S (sR h c k (some x))) := (ev_unf hp d ls _ S h).trans (bO_gd ..)
theorem gd_gd {α : Type} (c c' : Prop) (x : Option α) : gd c (gd c' x) = gd (c ∧ c') x := by
  by_cases h : c
  · by_cases h' : c'
    · rw [gd_pos h, gd_pos h', gd_pos ⟨h, h'⟩]
    · rw [gd_pos h, gd_neg h', gd_neg (fun z => h' z.2)]
  · rw [gd_neg h, gd_neg (fun z => h z.1)]
theorem u_ALdI {n : Nat} (hp : pgT m pc = some (oALdI n)) (d : Nat) (ls : List Value) (i : Int32) (c : Nat) (st : List Value) (S : aS) (h : aH) : ev d m pc ls (.int i :: .ref c :: st) S h = gd (aK S c = 100 ∨ aK S c = 200) (gd (inB i (aL S c)) (ev d m n ls (.int (h.1 c i.toNatClampNeg) :: st) S h)) := by
  rw [ev_unf hp]; show bO d m (gd _ (gd _ _)) = _; rw [bO_gd, bO_gd]; rfl
theorem u_ALdB {n : Nat} (hp : pgT m pc = some (oALdB n)) (d : Nat) (ls : List Value) (i : Int32) (c : Nat) (st : List Value) (S : aS) (h : aH) : ev d m pc ls (.int i :: .ref c :: st) S h = gd (aK S c = 101 ∨ aK S c = 102 ∨ aK S c = 202) (gd (inB i (aL S c)) (ev d m n ls (.int (h.1 c i.toNatClampNeg) :: st) S h)) := by
  rw [ev_unf hp]; show bO d m (gd _ (gd _ _)) = _; rw [bO_gd, bO_gd]; rfl
theorem u_ALdL {n : Nat} (hp : pgT m pc = some (oALdL n)) (d : Nat) (ls : List Value) (i : Int32) (c : Nat) (st : List Value) (S : aS) (h : aH) : ev d m pc ls (.int i :: .ref c :: st) S h = gd (aK S c = 103) (gd (inB i (aL S c)) (ev d m n ls (.long (h.2.1 c i.toNatClampNeg) :: st) S h)) := by
  rw [ev_unf hp]; show bO d m (gd _ (gd _ _)) = _; rw [bO_gd, bO_gd]; rfl
theorem u_ALdA {n : Nat} (hp : pgT m pc = some (oALdA n)) (d : Nat) (ls : List Value) (i : Int32) (c : Nat) (st : List Value) (S : aS) (h : aH) : ev d m pc ls (.int i :: .ref c :: st) S h = gd (aK S c = 104 ∨ aK S c = 105) (gd (inB i (aL S c)) (ev d m n ls (va_rf (aF S c i.toNatClampNeg) :: st) S h)) := by
  rw [ev_unf hp]; show bO d m (gd _ (gd _ _)) = _; rw [bO_gd, bO_gd]; rfl
theorem u_AStI {n : Nat} (hp : pgT m pc = some (oAStI n)) (d : Nat) (ls : List Value) (x i : Int32) (c : Nat) (st : List Value) (S : aS) (h : aH) : ev d m pc ls (.int x :: .int i :: .ref c :: st) S h = gd (aK S c = 100) (gd (inB i (aL S c)) (ev d m n ls st S (sI h c i.toNatClampNeg x))) := by
  rw [ev_unf hp]; show bO d m (gd _ (gd _ _)) = _; rw [bO_gd, bO_gd]; rfl
theorem u_AStB {n : Nat} (hp : pgT m pc = some (oAStB n)) (d : Nat) (ls : List Value) (x i : Int32) (c : Nat) (st : List Value) (S : aS) (h : aH) : ev d m pc ls (.int x :: .int i :: .ref c :: st) S h = gd (aK S c = 101 ∨ aK S c = 102) (gd (inB i (aL S c)) (ev d m n ls st S (sI h c i.toNatClampNeg (br (aK S c = 101) (vp_nar .byte x) (vp_nar .boolean x))))) := by
  rw [ev_unf hp]; show bO d m (gd _ (gd _ _)) = _; rw [bO_gd, bO_gd]; rfl
theorem u_AStL {n : Nat} (hp : pgT m pc = some (oAStL n)) (d : Nat) (ls : List Value) (x : Int64) (i : Int32) (c : Nat) (st : List Value) (S : aS) (h : aH) : ev d m pc ls (.long x :: .int i :: .ref c :: st) S h = gd (aK S c = 103) (gd (inB i (aL S c)) (ev d m n ls st S (sL h c i.toNatClampNeg x))) := by
  rw [ev_unf hp]; show bO d m (gd _ (gd _ _)) = _; rw [bO_gd, bO_gd]; rfl
theorem u_AStA {n : Nat} (hp : pgT m pc = some (oAStA n)) (d : Nat) (ls : List Value) (x : Nat) (i : Int32) (c : Nat) (st : List Value) (S : aS) (h : aH) : ev d m pc ls (.ref x :: .int i :: .ref c :: st) S h = gd ((aK S c = 104 ∧ aK S x = 6) ∨ (aK S c = 105 ∧ aK S x = 3)) (gd (inB i (aL S c)) (ev d m n ls st (sF S c i.toNatClampNeg (some x)) h)) := by
  rw [ev_unf hp]; show bO d m (gd _ (gd _ _)) = _; rw [bO_gd, bO_gd]; rfl
theorem u_Len {n : Nat} (hp : pgT m pc = some (oLen n)) (d : Nat) (ls : List Value) (c : Nat) (st : List Value) (S : aS) (h : aH) : ev d m pc ls (.ref c :: st) S h = gd (100 ≤ aK S c ∧ aK S c ≤ 202 ∧ ¬ aK S c = 201) (ev d m n ls (.int (Int32.ofNat (aL S c)) :: st) S h) := (ev_unf hp d ls _ S h).trans (bO_gd ..)
theorem u_New {ci N n : Nat} (hp : pgT m pc = some (oNew ci N n)) (d : Nat) (ls st : List Value) (S : aS) (h : aH) : ev d m pc ls st S h = ev d m n ls (.ref S.length :: st) (S ++ [(ci, N, [])]) (sZ h S.length) := ev_unf hp d ls st S h
theorem u_NewA {ty n : Nat} (hp : pgT m pc = some (oNewA ty n)) (d : Nat) (ls : List Value) (x : Int32) (st : List Value) (S : aS) (h : aH) : ev d m pc ls (.int x :: st) S h = gd (0 ≤ x.toInt ∧ x.toInt ≤ 2000) (ev d m n ls (.ref S.length :: st) (S ++ [(ty, x.toNatClampNeg, [])]) (sZ h S.length)) := (ev_unf hp d ls _ S h).trans (bO_gd ..)
theorem u_Obj {n : Nat} (hp : pgT m pc = some (oObj n)) (d : Nat) (ls : List Value) (c : Nat) (st : List Value) (S : aS) (h : aH) : ev (d + 1) m pc ls (.ref c :: st) S h = gd (cs st ≤ 8) (ev (d + 1) m n ls st S h) := by
  rw [ev_unf hp]; show bO (d + 1) m (gd _ _) = _; rw [bO_gd, show (¬ d + 1 = 0 ∧ (st.map fun v => v.category).sum ≤ 8) = (cs st ≤ 8) from propext ⟨fun z => z.2, fun z => ⟨by omega, z⟩⟩]; rfl
theorem u_Copy {n : Nat} (hp : pgT m pc = some (oCopy n)) (d : Nat) (ls : List Value) (k dp : Int32) (b : Nat) (sp : Int32) (a : Nat) (st : List Value) (S : aS) (h : aH) : ev (d + 1) m pc ls (.int k :: .int dp :: .ref b :: .int sp :: .ref a :: st) S h = gd (cs st ≤ 8 ∧ ((aK S a = 100 ∧ aK S b = 100) ∨ (aK S a = 103 ∧ aK S b = 103))) (gd (0 ≤ sp.toInt ∧ 0 ≤ dp.toInt ∧ 0 ≤ k.toInt ∧ sp.toInt + k.toInt ≤ aL S a ∧ dp.toInt + k.toInt ≤ aL S b)
    (ev (d + 1) m n ls st S (br (aK S a = 100) (sCI h a b sp.toNatClampNeg dp.toNatClampNeg k.toNatClampNeg) (sCL h a b sp.toNatClampNeg dp.toNatClampNeg k.toNatClampNeg)))) := by
  rw [ev_unf hp]; show bO (d + 1) m (gd _ (gd _ _)) = _; rw [bO_gd, bO_gd, show (¬ d + 1 = 0 ∧ (st.map fun v => v.category).sum ≤ 8 ∧ ((aK S a = 100 ∧ aK S b = 100) ∨ (aK S a = 103 ∧ aK S b = 103))) = (cs st ≤ 8 ∧ ((aK S a = 100 ∧ aK S b = 100) ∨ (aK S a = 103 ∧ aK S b = 103))) from propext ⟨fun z => z.2, fun z => ⟨by omega, z⟩⟩]; rfl
theorem u_M2 {f : Int32 → Int32 → Int32} {n : Nat} (hp : pgT m pc = some (oM2 f n)) (d : Nat) (ls : List Value) (y x : Int32) (st : List Value) (S : aS) (h : aH) : ev (d + 1) m pc ls (.int y :: .int x :: st) S h = gd (cs st ≤ 8) (ev (d + 1) m n ls (.int (f x y) :: st) S h) := by
  rw [ev_unf hp]; show bO (d + 1) m (gd _ _) = _; rw [bO_gd, show (¬ d + 1 = 0 ∧ (st.map fun v => v.category).sum ≤ 8) = (cs st ≤ 8) from propext ⟨fun z => z.2, fun z => ⟨by omega, z⟩⟩]; rfl
theorem u_M1 {f : Int32 → Int32} {n : Nat} (hp : pgT m pc = some (oM1 f n)) (d : Nat) (ls : List Value) (x : Int32) (st : List Value) (S : aS) (h : aH) : ev (d + 1) m pc ls (.int x :: st) S h = gd (cs st ≤ 8) (ev (d + 1) m n ls (.int (f x) :: st) S h) := by
  rw [ev_unf hp]; show bO (d + 1) m (gd _ _) = _; rw [bO_gd, show (¬ d + 1 = 0 ∧ (st.map fun v => v.category).sum ≤ 8) = (cs st ≤ 8) from propext ⟨fun z => z.2, fun z => ⟨by omega, z⟩⟩]; rfl
theorem u_StrC {n : Nat} (hp : pgT m pc = some (oStrC n)) (d : Nat) (ls : List Value) (c : Nat) (st : List Value) (S : aS) (h : aH) : ev d m pc ls (.ref c :: st) S h = gd (aK S c = 201) (ev d m n ls (.int 0 :: st) S h) := (ev_unf hp d ls _ S h).trans (bO_gd ..)
theorem u_StrV {n : Nat} (hp : pgT m pc = some (oStrV n)) (d : Nat) (ls : List Value) (c : Nat) (st : List Value) (S : aS) (h : aH) : ev d m pc ls (.ref c :: st) S h = gd (aK S c = 201) (ev d m n ls (.ref (c + 3) :: st) S h) := (ev_unf hp d ls _ S h).trans (bO_gd ..)
theorem u_Call {y a n : Nat} (hp : pgT m pc = some (oCall y a n)) {as : List Value} (ha : as.length = a) (d : Nat) (ls st : List Value) (S : aS) (h : aH) : ev (d + 1) m pc ls (as ++ st) S h = gd (cs st ≤ 8) ((call d y as.reverse S h).bind fun r => ev (d + 1) m n ls (r.1.toList ++ st) r.2.1 r.2.2) := by
  subst ha
  rw [ev_unf hp]
  unfold oCall
  rw [bO_gd, bO_cl, List.take_left, List.drop_left]
  congr 1
  exact propext ⟨fun z => z.2, fun z => ⟨by simp, z⟩⟩
theorem u_CalV {f : Nat → Option Nat} {a n : Nat} (hp : pgT m pc = some (oCalV f a n)) {as : List Value} (ha : as.length = a) {y : Nat} (d : Nat) (ls : List Value) (c : Nat) (st : List Value) (S : aS) (h : aH) (hk : f (aK S c) = some y) : ev (d + 1) m pc ls (as ++ .ref c :: st) S h = gd (cs st ≤ 8) ((call d y (.ref c :: as.reverse) S h).bind fun r => ev (d + 1) m n ls (r.1.toList ++ st) r.2.1 r.2.2) := by
  subst ha
  rw [ev_unf hp]
  unfold oCalV
  have e : (as ++ Value.ref c :: st)[as.length]? = some (.ref c) := by rw [List.getElem?_append_right (Nat.le_refl _), Nat.sub_self]; rfl
  have e2 : (as ++ Value.ref c :: st).drop (as.length + 1) = st := by rw [← List.drop_drop, List.drop_left]; rfl
  rw [e]
  dsimp only
  rw [hk]
  dsimp only
  rw [bO_gd, bO_cl, List.take_left, e2]
  rfl
theorem u_CalV1 {ci y a n : Nat} (hp : pgT m pc = some (oCalV (fun k => if k = ci then some y else none) a n)) {as : List Value} (ha : as.length = a) (d : Nat) (ls : List Value) (c : Nat) (st : List Value) (S : aS) (h : aH) : ev (d + 1) m pc ls (as ++ .ref c :: st) S h = gd (aK S c = ci) (gd (cs st ≤ 8) ((call d y (.ref c :: as.reverse) S h).bind fun r => ev (d + 1) m n ls (r.1.toList ++ st) r.2.1 r.2.2)) := by
  by_cases hk : aK S c = ci
  · rw [gd_pos hk]
    exact u_CalV hp ha d ls c st S h (if_pos hk)
  · subst ha
    rw [gd_neg hk, ev_unf hp]
    unfold oCalV
    have e : (as ++ Value.ref c :: st)[as.length]? = some (.ref c) := by rw [List.getElem?_append_right (Nat.le_refl _), Nat.sub_self]; rfl
    rw [e]
    dsimp only
    rw [if_neg hk]
    rfl
theorem u_CalS {y n : Nat} (hp : pgT m pc = some (oCalV (fun ci => if ci < 100 then some y else none) 0 n)) (d : Nat) (ls : List Value) (c : Nat) (st : List Value) (S : aS) (h : aH) : ev (d + 1) m pc ls (.ref c :: st) S h = gd (aK S c < 100) (gd (cs st ≤ 8) ((call d y [.ref c] S h).bind fun r => ev (d + 1) m n ls (r.1.toList ++ st) r.2.1 r.2.2)) := by
  by_cases hk : aK S c < 100
  · rw [gd_pos hk]
    exact u_CalV hp (as := []) rfl d ls c st S h (if_pos hk)
  · rw [gd_neg hk, ev_unf hp]
    unfold oCalV
    show bO (d + 1) m (match (if aK S c < 100 then some y else none) with
      | some y => _
      | none => none) = _
    rw [if_neg hk]
    rfl
end U
/-! locals -/
theorem ls_0 (a v : Value) (l : List Value) : lset1 (a :: l) 0 v = v :: l := rfl
theorem ls_1i (a : Int32) (b v : Value) (l : List Value) : lset1 (.int a :: b :: l) 1 v = .int a :: v :: l := rfl
theorem ls_1r (a : Nat) (b v : Value) (l : List Value) : lset1 (.ref a :: b :: l) 1 v = .ref a :: v :: l := rfl
theorem ls_1n (b v : Value) (l : List Value) : lset1 (.null :: b :: l) 1 v = .null :: v :: l := rfl
theorem ls_1l (a : Int64) (b v : Value) (l : List Value) : lset1 (.long a :: b :: l) 1 v = .null :: v :: l := rfl
theorem ls_2 (a : Value) (i : Nat) (v : Value) (l : List Value) : lset1 (a :: l) (i + 2) v = a :: lset1 l (i + 1) v := by
  unfold lset1
  dsimp only
  rw [show ((a :: l).getD (i + 1) Value.null) = l.getD i .null from rfl]
  split <;> rfl
theorem ls2_eq (l : List Value) (i : Nat) (v : Value) : lset2 l i v = (lset1 l i v).set (i + 1) .null := rfl
theorem rf_s (a : Nat) : va_rf (some a) = .ref a := rfl
