/-! nothing is ever taken away -/
def GrowO (S : aS) (o : aO) : Prop := match o with
  | none => True
  | some (.inl (_, _, _, S', _)) => S.length ≤ S'.length ∧ slc S ≤ slc S'
  | some (.inr (.inl (_, S', _))) => S.length ≤ S'.length ∧ slc S ≤ slc S'
  | some (.inr (.inr (_, _, _, _, _, S', _))) => S.length ≤ S'.length ∧ slc S ≤ slc S'
theorem Grow.of {op : aP} (h : ∀ d ls st S h, GrowO S (op d ls st S h)) : Grow op := by
  intro d ls st S h0 o ho
  have := h d ls st S h0
  rw [ho] at this
  match o, this with
  | .inl (_, _, _, _, _), g => exact g
  | .inr (.inl (_, _, _)), g => exact g
  | .inr (.inr (_, _, _, _, _, _, _)), g => exact g
theorem GrowO.none (S : aS) : GrowO S none := trivial
theorem GrowO.gd {S : aS} {c : Prop} {o : aO} (h : GrowO S o) : GrowO S (gd c o) := by
  by_cases hc : c
  · rw [gd_pos hc]; exact h
  · rw [gd_neg hc]; exact trivial
theorem GrowO.br {S : aS} {c : Prop} {o o' : aO} (h : GrowO S o) (h' : GrowO S o') : GrowO S (br c o o') := by
  by_cases hc : c
  · rw [br_pos hc]; exact h
  · rw [br_neg hc]; exact h'
theorem GrowO.nx (n : Nat) (ls st : List Value) (S : aS) (h : aH) : GrowO S (oNx n ls st S h) := ⟨Nat.le_refl _, Nat.le_refl _⟩
theorem GrowO.rt (v : Option Value) (S : aS) (h : aH) : GrowO S (oRt v S h) := ⟨Nat.le_refl _, Nat.le_refl _⟩
theorem GrowO.cl (y : Nat) (as : List Value) (n : Nat) (ls st : List Value) (S : aS) (h : aH) : GrowO S (oCl y as n ls st S h) := ⟨Nat.le_refl _, Nat.le_refl _⟩
theorem GrowO.nxF (n : Nat) (ls st : List Value) (S : aS) (h : aH) (c k : Nat) (v : Option Nat) : GrowO S (oNx n ls st (sF S c k v) h) := ⟨by rw [sF_len]; exact Nat.le_refl _, by rw [sF_slc]; exact Nat.le_refl _⟩
theorem GrowO.nxP (n : Nat) (ls st : List Value) (S : aS) (h : aH) (e : aE) : GrowO S (oNx n ls st (S ++ [e]) h) := ⟨by simp, by rw [slc_push]; omega⟩
theorem gr_Push (v : Value) (n : Nat) : Grow (oPush v n) := by
  refine Grow.of (fun d ls st S h => ?_)
  unfold oPush
  repeat' (first | exact GrowO.none _ | exact GrowO.nx _ _ _ _ _ | exact GrowO.rt _ _ _ | exact GrowO.cl _ _ _ _ _ _ _ | exact GrowO.nxF _ _ _ _ _ _ _ _ | exact GrowO.nxP _ _ _ _ _ _ | refine GrowO.gd ?_ | refine GrowO.br ?_ ?_ | split)
theorem gr_LdI (i n : Nat) : Grow (oLdI i n) := by
  refine Grow.of (fun d ls st S h => ?_)
  unfold oLdI
  repeat' (first | exact GrowO.none _ | exact GrowO.nx _ _ _ _ _ | exact GrowO.rt _ _ _ | exact GrowO.cl _ _ _ _ _ _ _ | exact GrowO.nxF _ _ _ _ _ _ _ _ | exact GrowO.nxP _ _ _ _ _ _ | refine GrowO.gd ?_ | refine GrowO.br ?_ ?_ | split)
theorem gr_LdL (i n : Nat) : Grow (oLdL i n) := by
  refine Grow.of (fun d ls st S h => ?_)
  unfold oLdL
  repeat' (first | exact GrowO.none _ | exact GrowO.nx _ _ _ _ _ | exact GrowO.rt _ _ _ | exact GrowO.cl _ _ _ _ _ _ _ | exact GrowO.nxF _ _ _ _ _ _ _ _ | exact GrowO.nxP _ _ _ _ _ _ | refine GrowO.gd ?_ | refine GrowO.br ?_ ?_ | split)
theorem gr_LdA (i n : Nat) : Grow (oLdA i n) := by
  refine Grow.of (fun d ls st S h => ?_)
  unfold oLdA
  repeat' (first | exact GrowO.none _ | exact GrowO.nx _ _ _ _ _ | exact GrowO.rt _ _ _ | exact GrowO.cl _ _ _ _ _ _ _ | exact GrowO.nxF _ _ _ _ _ _ _ _ | exact GrowO.nxP _ _ _ _ _ _ | refine GrowO.gd ?_ | refine GrowO.br ?_ ?_ | split)
theorem gr_StI (i n : Nat) : Grow (oStI i n) := by
  refine Grow.of (fun d ls st S h => ?_)
  unfold oStI
  repeat' (first | exact GrowO.none _ | exact GrowO.nx _ _ _ _ _ | exact GrowO.rt _ _ _ | exact GrowO.cl _ _ _ _ _ _ _ | exact GrowO.nxF _ _ _ _ _ _ _ _ | exact GrowO.nxP _ _ _ _ _ _ | refine GrowO.gd ?_ | refine GrowO.br ?_ ?_ | split)
theorem gr_StL (i n : Nat) : Grow (oStL i n) := by
  refine Grow.of (fun d ls st S h => ?_)
  unfold oStL
  repeat' (first | exact GrowO.none _ | exact GrowO.nx _ _ _ _ _ | exact GrowO.rt _ _ _ | exact GrowO.cl _ _ _ _ _ _ _ | exact GrowO.nxF _ _ _ _ _ _ _ _ | exact GrowO.nxP _ _ _ _ _ _ | refine GrowO.gd ?_ | refine GrowO.br ?_ ?_ | split)
theorem gr_StA (i n : Nat) : Grow (oStA i n) := by
  refine Grow.of (fun d ls st S h => ?_)
  unfold oStA
  repeat' (first | exact GrowO.none _ | exact GrowO.nx _ _ _ _ _ | exact GrowO.rt _ _ _ | exact GrowO.cl _ _ _ _ _ _ _ | exact GrowO.nxF _ _ _ _ _ _ _ _ | exact GrowO.nxP _ _ _ _ _ _ | refine GrowO.gd ?_ | refine GrowO.br ?_ ?_ | split)
theorem gr_Inc (i : Nat) (k : Int32) (n : Nat) : Grow (oInc i k n) := by
  refine Grow.of (fun d ls st S h => ?_)
  unfold oInc
  repeat' (first | exact GrowO.none _ | exact GrowO.nx _ _ _ _ _ | exact GrowO.rt _ _ _ | exact GrowO.cl _ _ _ _ _ _ _ | exact GrowO.nxF _ _ _ _ _ _ _ _ | exact GrowO.nxP _ _ _ _ _ _ | refine GrowO.gd ?_ | refine GrowO.br ?_ ?_ | split)
theorem gr_II (f : Int32 → Int32 → Int32) (n : Nat) : Grow (oII f n) := by
  refine Grow.of (fun d ls st S h => ?_)
  unfold oII
  repeat' (first | exact GrowO.none _ | exact GrowO.nx _ _ _ _ _ | exact GrowO.rt _ _ _ | exact GrowO.cl _ _ _ _ _ _ _ | exact GrowO.nxF _ _ _ _ _ _ _ _ | exact GrowO.nxP _ _ _ _ _ _ | refine GrowO.gd ?_ | refine GrowO.br ?_ ?_ | split)
theorem gr_IId (f : Int32 → Int32 → Int32) (n : Nat) : Grow (oIId f n) := by
  refine Grow.of (fun d ls st S h => ?_)
  unfold oIId
  repeat' (first | exact GrowO.none _ | exact GrowO.nx _ _ _ _ _ | exact GrowO.rt _ _ _ | exact GrowO.cl _ _ _ _ _ _ _ | exact GrowO.nxF _ _ _ _ _ _ _ _ | exact GrowO.nxP _ _ _ _ _ _ | refine GrowO.gd ?_ | refine GrowO.br ?_ ?_ | split)
theorem gr_I (f : Int32 → Int32) (n : Nat) : Grow (oI f n) := by
  refine Grow.of (fun d ls st S h => ?_)
  unfold oI
  repeat' (first | exact GrowO.none _ | exact GrowO.nx _ _ _ _ _ | exact GrowO.rt _ _ _ | exact GrowO.cl _ _ _ _ _ _ _ | exact GrowO.nxF _ _ _ _ _ _ _ _ | exact GrowO.nxP _ _ _ _ _ _ | refine GrowO.gd ?_ | refine GrowO.br ?_ ?_ | split)
theorem gr_IL (f : Int32 → Int64) (n : Nat) : Grow (oIL f n) := by
  refine Grow.of (fun d ls st S h => ?_)
  unfold oIL
  repeat' (first | exact GrowO.none _ | exact GrowO.nx _ _ _ _ _ | exact GrowO.rt _ _ _ | exact GrowO.cl _ _ _ _ _ _ _ | exact GrowO.nxF _ _ _ _ _ _ _ _ | exact GrowO.nxP _ _ _ _ _ _ | refine GrowO.gd ?_ | refine GrowO.br ?_ ?_ | split)
theorem gr_LI (f : Int64 → Int32) (n : Nat) : Grow (oLI f n) := by
  refine Grow.of (fun d ls st S h => ?_)
  unfold oLI
  repeat' (first | exact GrowO.none _ | exact GrowO.nx _ _ _ _ _ | exact GrowO.rt _ _ _ | exact GrowO.cl _ _ _ _ _ _ _ | exact GrowO.nxF _ _ _ _ _ _ _ _ | exact GrowO.nxP _ _ _ _ _ _ | refine GrowO.gd ?_ | refine GrowO.br ?_ ?_ | split)
theorem gr_LL (f : Int64 → Int64 → Int64) (n : Nat) : Grow (oLL f n) := by
  refine Grow.of (fun d ls st S h => ?_)
  unfold oLL
  repeat' (first | exact GrowO.none _ | exact GrowO.nx _ _ _ _ _ | exact GrowO.rt _ _ _ | exact GrowO.cl _ _ _ _ _ _ _ | exact GrowO.nxF _ _ _ _ _ _ _ _ | exact GrowO.nxP _ _ _ _ _ _ | refine GrowO.gd ?_ | refine GrowO.br ?_ ?_ | split)
theorem gr_LSh (f : Int64 → Int32 → Int64) (n : Nat) : Grow (oLSh f n) := by
  refine Grow.of (fun d ls st S h => ?_)
  unfold oLSh
  repeat' (first | exact GrowO.none _ | exact GrowO.nx _ _ _ _ _ | exact GrowO.rt _ _ _ | exact GrowO.cl _ _ _ _ _ _ _ | exact GrowO.nxF _ _ _ _ _ _ _ _ | exact GrowO.nxP _ _ _ _ _ _ | refine GrowO.gd ?_ | refine GrowO.br ?_ ?_ | split)
theorem gr_Lcmp (n : Nat) : Grow (oLcmp n) := by
  refine Grow.of (fun d ls st S h => ?_)
  unfold oLcmp
  repeat' (first | exact GrowO.none _ | exact GrowO.nx _ _ _ _ _ | exact GrowO.rt _ _ _ | exact GrowO.cl _ _ _ _ _ _ _ | exact GrowO.nxF _ _ _ _ _ _ _ _ | exact GrowO.nxP _ _ _ _ _ _ | refine GrowO.gd ?_ | refine GrowO.br ?_ ?_ | split)
theorem gr_Dup (n : Nat) : Grow (oDup n) := by
  refine Grow.of (fun d ls st S h => ?_)
  unfold oDup
  repeat' (first | exact GrowO.none _ | exact GrowO.nx _ _ _ _ _ | exact GrowO.rt _ _ _ | exact GrowO.cl _ _ _ _ _ _ _ | exact GrowO.nxF _ _ _ _ _ _ _ _ | exact GrowO.nxP _ _ _ _ _ _ | refine GrowO.gd ?_ | refine GrowO.br ?_ ?_ | split)
theorem gr_Pop (n : Nat) : Grow (oPop n) := by
  refine Grow.of (fun d ls st S h => ?_)
  unfold oPop
  repeat' (first | exact GrowO.none _ | exact GrowO.nx _ _ _ _ _ | exact GrowO.rt _ _ _ | exact GrowO.cl _ _ _ _ _ _ _ | exact GrowO.nxF _ _ _ _ _ _ _ _ | exact GrowO.nxP _ _ _ _ _ _ | refine GrowO.gd ?_ | refine GrowO.br ?_ ?_ | split)
theorem gr_Dup2 (n : Nat) : Grow (oDup2 n) := by
  refine Grow.of (fun d ls st S h => ?_)
  unfold oDup2
  repeat' (first | exact GrowO.none _ | exact GrowO.nx _ _ _ _ _ | exact GrowO.rt _ _ _ | exact GrowO.cl _ _ _ _ _ _ _ | exact GrowO.nxF _ _ _ _ _ _ _ _ | exact GrowO.nxP _ _ _ _ _ _ | refine GrowO.gd ?_ | refine GrowO.br ?_ ?_ | split)
theorem gr_If (P : Int32 → Prop) (t n : Nat) : Grow (oIf P t n) := by
  refine Grow.of (fun d ls st S h => ?_)
  unfold oIf
  repeat' (first | exact GrowO.none _ | exact GrowO.nx _ _ _ _ _ | exact GrowO.rt _ _ _ | exact GrowO.cl _ _ _ _ _ _ _ | exact GrowO.nxF _ _ _ _ _ _ _ _ | exact GrowO.nxP _ _ _ _ _ _ | refine GrowO.gd ?_ | refine GrowO.br ?_ ?_ | split)
theorem gr_Ic (P : Int32 → Int32 → Prop) (t n : Nat) : Grow (oIc P t n) := by
  refine Grow.of (fun d ls st S h => ?_)
  unfold oIc
  repeat' (first | exact GrowO.none _ | exact GrowO.nx _ _ _ _ _ | exact GrowO.rt _ _ _ | exact GrowO.cl _ _ _ _ _ _ _ | exact GrowO.nxF _ _ _ _ _ _ _ _ | exact GrowO.nxP _ _ _ _ _ _ | refine GrowO.gd ?_ | refine GrowO.br ?_ ?_ | split)
theorem gr_Go (t : Nat) : Grow (oGo t) := by
  refine Grow.of (fun d ls st S h => ?_)
  unfold oGo
  repeat' (first | exact GrowO.none _ | exact GrowO.nx _ _ _ _ _ | exact GrowO.rt _ _ _ | exact GrowO.cl _ _ _ _ _ _ _ | exact GrowO.nxF _ _ _ _ _ _ _ _ | exact GrowO.nxP _ _ _ _ _ _ | refine GrowO.gd ?_ | refine GrowO.br ?_ ?_ | split)
theorem gr_Sw (lo hi : Int) (ts : List Nat) (d0 : Nat) : Grow (oSw lo hi ts d0) := by
  refine Grow.of (fun d ls st S h => ?_)
  unfold oSw
  repeat' (first | exact GrowO.none _ | exact GrowO.nx _ _ _ _ _ | exact GrowO.rt _ _ _ | exact GrowO.cl _ _ _ _ _ _ _ | exact GrowO.nxF _ _ _ _ _ _ _ _ | exact GrowO.nxP _ _ _ _ _ _ | refine GrowO.gd ?_ | refine GrowO.br ?_ ?_ | split)
theorem gr_RetI  : Grow (oRetI) := by
  refine Grow.of (fun d ls st S h => ?_)
  unfold oRetI
  repeat' (first | exact GrowO.none _ | exact GrowO.nx _ _ _ _ _ | exact GrowO.rt _ _ _ | exact GrowO.cl _ _ _ _ _ _ _ | exact GrowO.nxF _ _ _ _ _ _ _ _ | exact GrowO.nxP _ _ _ _ _ _ | refine GrowO.gd ?_ | refine GrowO.br ?_ ?_ | split)
theorem gr_RetN (ty : FieldType) : Grow (oRetN ty) := by
  refine Grow.of (fun d ls st S h => ?_)
  unfold oRetN
  repeat' (first | exact GrowO.none _ | exact GrowO.nx _ _ _ _ _ | exact GrowO.rt _ _ _ | exact GrowO.cl _ _ _ _ _ _ _ | exact GrowO.nxF _ _ _ _ _ _ _ _ | exact GrowO.nxP _ _ _ _ _ _ | refine GrowO.gd ?_ | refine GrowO.br ?_ ?_ | split)
theorem gr_RetL  : Grow (oRetL) := by
  refine Grow.of (fun d ls st S h => ?_)
  unfold oRetL
  repeat' (first | exact GrowO.none _ | exact GrowO.nx _ _ _ _ _ | exact GrowO.rt _ _ _ | exact GrowO.cl _ _ _ _ _ _ _ | exact GrowO.nxF _ _ _ _ _ _ _ _ | exact GrowO.nxP _ _ _ _ _ _ | refine GrowO.gd ?_ | refine GrowO.br ?_ ?_ | split)
theorem gr_RetV  : Grow (oRetV) := by
  refine Grow.of (fun d ls st S h => ?_)
  unfold oRetV
  repeat' (first | exact GrowO.none _ | exact GrowO.nx _ _ _ _ _ | exact GrowO.rt _ _ _ | exact GrowO.cl _ _ _ _ _ _ _ | exact GrowO.nxF _ _ _ _ _ _ _ _ | exact GrowO.nxP _ _ _ _ _ _ | refine GrowO.gd ?_ | refine GrowO.br ?_ ?_ | split)
theorem gr_GetI (P : Nat → Prop) (k n : Nat) : Grow (oGetI P k n) := by
  refine Grow.of (fun d ls st S h => ?_)
  unfold oGetI
  repeat' (first | exact GrowO.none _ | exact GrowO.nx _ _ _ _ _ | exact GrowO.rt _ _ _ | exact GrowO.cl _ _ _ _ _ _ _ | exact GrowO.nxF _ _ _ _ _ _ _ _ | exact GrowO.nxP _ _ _ _ _ _ | refine GrowO.gd ?_ | refine GrowO.br ?_ ?_ | split)
theorem gr_GetL (P : Nat → Prop) (k n : Nat) : Grow (oGetL P k n) := by
  refine Grow.of (fun d ls st S h => ?_)
  unfold oGetL
  repeat' (first | exact GrowO.none _ | exact GrowO.nx _ _ _ _ _ | exact GrowO.rt _ _ _ | exact GrowO.cl _ _ _ _ _ _ _ | exact GrowO.nxF _ _ _ _ _ _ _ _ | exact GrowO.nxP _ _ _ _ _ _ | refine GrowO.gd ?_ | refine GrowO.br ?_ ?_ | split)
theorem gr_GetF (P : Nat → Prop) (k n : Nat) : Grow (oGetF P k n) := by
  refine Grow.of (fun d ls st S h => ?_)
  unfold oGetF
  repeat' (first | exact GrowO.none _ | exact GrowO.nx _ _ _ _ _ | exact GrowO.rt _ _ _ | exact GrowO.cl _ _ _ _ _ _ _ | exact GrowO.nxF _ _ _ _ _ _ _ _ | exact GrowO.nxP _ _ _ _ _ _ | refine GrowO.gd ?_ | refine GrowO.br ?_ ?_ | split)
theorem gr_GetD (P : Nat → Prop) (k n : Nat) : Grow (oGetD P k n) := by
  refine Grow.of (fun d ls st S h => ?_)
  unfold oGetD
  repeat' (first | exact GrowO.none _ | exact GrowO.nx _ _ _ _ _ | exact GrowO.rt _ _ _ | exact GrowO.cl _ _ _ _ _ _ _ | exact GrowO.nxF _ _ _ _ _ _ _ _ | exact GrowO.nxP _ _ _ _ _ _ | refine GrowO.gd ?_ | refine GrowO.br ?_ ?_ | split)
theorem gr_PutI (P : Nat → Prop) (k n : Nat) : Grow (oPutI P k n) := by
  refine Grow.of (fun d ls st S h => ?_)
  unfold oPutI
  repeat' (first | exact GrowO.none _ | exact GrowO.nx _ _ _ _ _ | exact GrowO.rt _ _ _ | exact GrowO.cl _ _ _ _ _ _ _ | exact GrowO.nxF _ _ _ _ _ _ _ _ | exact GrowO.nxP _ _ _ _ _ _ | refine GrowO.gd ?_ | refine GrowO.br ?_ ?_ | split)
theorem gr_PutZ (P : Nat → Prop) (k n : Nat) : Grow (oPutZ P k n) := by
  refine Grow.of (fun d ls st S h => ?_)
  unfold oPutZ
  repeat' (first | exact GrowO.none _ | exact GrowO.nx _ _ _ _ _ | exact GrowO.rt _ _ _ | exact GrowO.cl _ _ _ _ _ _ _ | exact GrowO.nxF _ _ _ _ _ _ _ _ | exact GrowO.nxP _ _ _ _ _ _ | refine GrowO.gd ?_ | refine GrowO.br ?_ ?_ | split)
theorem gr_PutL (P : Nat → Prop) (k n : Nat) : Grow (oPutL P k n) := by
  refine Grow.of (fun d ls st S h => ?_)
  unfold oPutL
  repeat' (first | exact GrowO.none _ | exact GrowO.nx _ _ _ _ _ | exact GrowO.rt _ _ _ | exact GrowO.cl _ _ _ _ _ _ _ | exact GrowO.nxF _ _ _ _ _ _ _ _ | exact GrowO.nxP _ _ _ _ _ _ | refine GrowO.gd ?_ | refine GrowO.br ?_ ?_ | split)
theorem gr_PutF (P : Nat → Prop) (k n : Nat) : Grow (oPutF P k n) := by
  refine Grow.of (fun d ls st S h => ?_)
  unfold oPutF
  repeat' (first | exact GrowO.none _ | exact GrowO.nx _ _ _ _ _ | exact GrowO.rt _ _ _ | exact GrowO.cl _ _ _ _ _ _ _ | exact GrowO.nxF _ _ _ _ _ _ _ _ | exact GrowO.nxP _ _ _ _ _ _ | refine GrowO.gd ?_ | refine GrowO.br ?_ ?_ | split)
theorem gr_PutD (P : Nat → Prop) (k n : Nat) : Grow (oPutD P k n) := by
  refine Grow.of (fun d ls st S h => ?_)
  unfold oPutD
  repeat' (first | exact GrowO.none _ | exact GrowO.nx _ _ _ _ _ | exact GrowO.rt _ _ _ | exact GrowO.cl _ _ _ _ _ _ _ | exact GrowO.nxF _ _ _ _ _ _ _ _ | exact GrowO.nxP _ _ _ _ _ _ | refine GrowO.gd ?_ | refine GrowO.br ?_ ?_ | split)
theorem gr_ALdI (n : Nat) : Grow (oALdI n) := by
  refine Grow.of (fun d ls st S h => ?_)
  unfold oALdI
  repeat' (first | exact GrowO.none _ | exact GrowO.nx _ _ _ _ _ | exact GrowO.rt _ _ _ | exact GrowO.cl _ _ _ _ _ _ _ | exact GrowO.nxF _ _ _ _ _ _ _ _ | exact GrowO.nxP _ _ _ _ _ _ | refine GrowO.gd ?_ | refine GrowO.br ?_ ?_ | split)
theorem gr_ALdB (n : Nat) : Grow (oALdB n) := by
  refine Grow.of (fun d ls st S h => ?_)
  unfold oALdB
  repeat' (first | exact GrowO.none _ | exact GrowO.nx _ _ _ _ _ | exact GrowO.rt _ _ _ | exact GrowO.cl _ _ _ _ _ _ _ | exact GrowO.nxF _ _ _ _ _ _ _ _ | exact GrowO.nxP _ _ _ _ _ _ | refine GrowO.gd ?_ | refine GrowO.br ?_ ?_ | split)
theorem gr_ALdL (n : Nat) : Grow (oALdL n) := by
  refine Grow.of (fun d ls st S h => ?_)
  unfold oALdL
  repeat' (first | exact GrowO.none _ | exact GrowO.nx _ _ _ _ _ | exact GrowO.rt _ _ _ | exact GrowO.cl _ _ _ _ _ _ _ | exact GrowO.nxF _ _ _ _ _ _ _ _ | exact GrowO.nxP _ _ _ _ _ _ | refine GrowO.gd ?_ | refine GrowO.br ?_ ?_ | split)
theorem gr_ALdA (n : Nat) : Grow (oALdA n) := by
  refine Grow.of (fun d ls st S h => ?_)
  unfold oALdA
  repeat' (first | exact GrowO.none _ | exact GrowO.nx _ _ _ _ _ | exact GrowO.rt _ _ _ | exact GrowO.cl _ _ _ _ _ _ _ | exact GrowO.nxF _ _ _ _ _ _ _ _ | exact GrowO.nxP _ _ _ _ _ _ | refine GrowO.gd ?_ | refine GrowO.br ?_ ?_ | split)
theorem gr_AStI (n : Nat) : Grow (oAStI n) := by
  refine Grow.of (fun d ls st S h => ?_)
  unfold oAStI
  repeat' (first | exact GrowO.none _ | exact GrowO.nx _ _ _ _ _ | exact GrowO.rt _ _ _ | exact GrowO.cl _ _ _ _ _ _ _ | exact GrowO.nxF _ _ _ _ _ _ _ _ | exact GrowO.nxP _ _ _ _ _ _ | refine GrowO.gd ?_ | refine GrowO.br ?_ ?_ | split)
theorem gr_AStB (n : Nat) : Grow (oAStB n) := by
  refine Grow.of (fun d ls st S h => ?_)
  unfold oAStB
  repeat' (first | exact GrowO.none _ | exact GrowO.nx _ _ _ _ _ | exact GrowO.rt _ _ _ | exact GrowO.cl _ _ _ _ _ _ _ | exact GrowO.nxF _ _ _ _ _ _ _ _ | exact GrowO.nxP _ _ _ _ _ _ | refine GrowO.gd ?_ | refine GrowO.br ?_ ?_ | split)
theorem gr_AStL (n : Nat) : Grow (oAStL n) := by
  refine Grow.of (fun d ls st S h => ?_)
  unfold oAStL
  repeat' (first | exact GrowO.none _ | exact GrowO.nx _ _ _ _ _ | exact GrowO.rt _ _ _ | exact GrowO.cl _ _ _ _ _ _ _ | exact GrowO.nxF _ _ _ _ _ _ _ _ | exact GrowO.nxP _ _ _ _ _ _ | refine GrowO.gd ?_ | refine GrowO.br ?_ ?_ | split)
theorem gr_AStA (n : Nat) : Grow (oAStA n) := by
  refine Grow.of (fun d ls st S h => ?_)
  unfold oAStA
  repeat' (first | exact GrowO.none _ | exact GrowO.nx _ _ _ _ _ | exact GrowO.rt _ _ _ | exact GrowO.cl _ _ _ _ _ _ _ | exact GrowO.nxF _ _ _ _ _ _ _ _ | exact GrowO.nxP _ _ _ _ _ _ | refine GrowO.gd ?_ | refine GrowO.br ?_ ?_ | split)
theorem gr_Len (n : Nat) : Grow (oLen n) := by
  refine Grow.of (fun d ls st S h => ?_)
  unfold oLen
  repeat' (first | exact GrowO.none _ | exact GrowO.nx _ _ _ _ _ | exact GrowO.rt _ _ _ | exact GrowO.cl _ _ _ _ _ _ _ | exact GrowO.nxF _ _ _ _ _ _ _ _ | exact GrowO.nxP _ _ _ _ _ _ | refine GrowO.gd ?_ | refine GrowO.br ?_ ?_ | split)
theorem gr_New (ci N n : Nat) : Grow (oNew ci N n) := by
  refine Grow.of (fun d ls st S h => ?_)
  unfold oNew
  repeat' (first | exact GrowO.none _ | exact GrowO.nx _ _ _ _ _ | exact GrowO.rt _ _ _ | exact GrowO.cl _ _ _ _ _ _ _ | exact GrowO.nxF _ _ _ _ _ _ _ _ | exact GrowO.nxP _ _ _ _ _ _ | refine GrowO.gd ?_ | refine GrowO.br ?_ ?_ | split)
theorem gr_NewA (ty n : Nat) : Grow (oNewA ty n) := by
  refine Grow.of (fun d ls st S h => ?_)
  unfold oNewA
  repeat' (first | exact GrowO.none _ | exact GrowO.nx _ _ _ _ _ | exact GrowO.rt _ _ _ | exact GrowO.cl _ _ _ _ _ _ _ | exact GrowO.nxF _ _ _ _ _ _ _ _ | exact GrowO.nxP _ _ _ _ _ _ | refine GrowO.gd ?_ | refine GrowO.br ?_ ?_ | split)
theorem gr_Obj (n : Nat) : Grow (oObj n) := by
  refine Grow.of (fun d ls st S h => ?_)
  unfold oObj
  repeat' (first | exact GrowO.none _ | exact GrowO.nx _ _ _ _ _ | exact GrowO.rt _ _ _ | exact GrowO.cl _ _ _ _ _ _ _ | exact GrowO.nxF _ _ _ _ _ _ _ _ | exact GrowO.nxP _ _ _ _ _ _ | refine GrowO.gd ?_ | refine GrowO.br ?_ ?_ | split)
theorem gr_Copy (n : Nat) : Grow (oCopy n) := by
  refine Grow.of (fun d ls st S h => ?_)
  unfold oCopy
  repeat' (first | exact GrowO.none _ | exact GrowO.nx _ _ _ _ _ | exact GrowO.rt _ _ _ | exact GrowO.cl _ _ _ _ _ _ _ | exact GrowO.nxF _ _ _ _ _ _ _ _ | exact GrowO.nxP _ _ _ _ _ _ | refine GrowO.gd ?_ | refine GrowO.br ?_ ?_ | split)
theorem gr_Call (y a n : Nat) : Grow (oCall y a n) := by
  refine Grow.of (fun d ls st S h => ?_)
  unfold oCall
  repeat' (first | exact GrowO.none _ | exact GrowO.nx _ _ _ _ _ | exact GrowO.rt _ _ _ | exact GrowO.cl _ _ _ _ _ _ _ | exact GrowO.nxF _ _ _ _ _ _ _ _ | exact GrowO.nxP _ _ _ _ _ _ | refine GrowO.gd ?_ | refine GrowO.br ?_ ?_ | split)
theorem gr_CalV (f : Nat → Option Nat) (a n : Nat) : Grow (oCalV f a n) := by
  refine Grow.of (fun d ls st S h => ?_)
  unfold oCalV
  repeat' (first | exact GrowO.none _ | exact GrowO.nx _ _ _ _ _ | exact GrowO.rt _ _ _ | exact GrowO.cl _ _ _ _ _ _ _ | exact GrowO.nxF _ _ _ _ _ _ _ _ | exact GrowO.nxP _ _ _ _ _ _ | refine GrowO.gd ?_ | refine GrowO.br ?_ ?_ | split)
theorem gr_StrC (n : Nat) : Grow (oStrC n) := by
  refine Grow.of (fun d ls st S h => ?_)
  unfold oStrC
  repeat' (first | exact GrowO.none _ | exact GrowO.nx _ _ _ _ _ | exact GrowO.rt _ _ _ | exact GrowO.cl _ _ _ _ _ _ _ | exact GrowO.nxF _ _ _ _ _ _ _ _ | exact GrowO.nxP _ _ _ _ _ _ | refine GrowO.gd ?_ | refine GrowO.br ?_ ?_ | split)
theorem gr_StrV (n : Nat) : Grow (oStrV n) := by
  refine Grow.of (fun d ls st S h => ?_)
  unfold oStrV
  repeat' (first | exact GrowO.none _ | exact GrowO.nx _ _ _ _ _ | exact GrowO.rt _ _ _ | exact GrowO.cl _ _ _ _ _ _ _ | exact GrowO.nxF _ _ _ _ _ _ _ _ | exact GrowO.nxP _ _ _ _ _ _ | refine GrowO.gd ?_ | refine GrowO.br ?_ ?_ | split)
