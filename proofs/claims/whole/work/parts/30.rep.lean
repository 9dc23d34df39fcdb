/-! HOW THE MACHINE'S HEAP HOLDS AN ABSTRACT ONE -/
/-- class ids and slots, array classes, where our cells begin, the script's length, where the eight old cells lie, the script, the heap at the start -/
abbrev aG : Type := va_G × (Nat → ClassId) × Nat × Nat × (Nat → Nat) × (Nat → Int32) × Heap
def gA (G : aG) (q : Nat) : Prop := G.2.2.1 ≤ q
def gad (G : aG) (c : Nat) : Nat := if c < 8 then G.2.2.2.2.1 c else G.2.2.1 + (c - 8)
/-- (retAddr stands for one static of the JDK that is a reference or null, and is only carried) -/
def gfm (G : aG) : Value := if G.2.2.2.2.1 100 = 0 then .null else .ref (G.2.2.2.2.1 101)
def gv (G : aG) : Value → Value
  | .ref c => .ref (gad G c)
  | .retAddr _ => gfm G
  | v => v
def gtys (G : aG) : List (ClassId × FieldType) := [(G.2.1 0, .int), (G.2.1 1, .byte), (G.2.1 2, .boolean), (G.2.1 3, .long), (G.2.1 4, .object RC6), (G.2.1 5, .object RC3)]
def gFV (G : aG) (e : aE) (c k : Nat) (h : aH) : Value := match ftk e.1 k with
  | 1 => .long (h.2.1 c k)
  | 2 => va_rf ((e.2.2.getD k none).map (gad G))
  | 3 => va_rf ((h.2.2 c k).map (gad G))
  | _ => .int (h.1 c k)
def gX (G : aG) (h : aH) (c : Nat) (e : aE) : va_E :=
  if e.1 < 100 then .inr (e.1, (List.range e.2.1).map (fun k => gFV G e c k h))
  else if e.1 = 103 then .inl (G.2.1 3, e.2.1, .inr (.inl (h.2.1 c)))
  else if e.1 = 104 ∨ e.1 = 105 then .inl (G.2.1 (e.1 - 100), e.2.1, .inr (.inr (.inr (.inr (fun j => (e.2.2.getD j none).map (gad G))))))
  else .inl (G.2.1 (e.1 - 100), e.2.1, .inl (h.1 c))
def gW (G : aG) (S : aS) (h : aH) : va_W := (List.range (S.length - 8)).map (fun i => (G.2.2.1 + i, gX G h (i + 8) (S.getD (i + 8) (999, 0, []))))
def oldS (L : Nat) : aS := [(200, L, []), (200, 4, []), (201, 0, []), (201, 0, []), (201, 0, []), (202, 3, []), (202, 5, []), (202, 3, [])]
def SOk (S : aS) : Prop := ∀ c, 8 ≤ c → c < S.length → (aK S c < 100 → ∃ r : vw_C, classes[aK S c]? = some r ∧ r.2.2 = aL S c) ∧ aK S c ≤ 105
def strF (j : Nat) : Int32 := [(-8 : Int32), 1, 8, -1].getD j 0
def lenF : List Nat := [3, 5, 3]
def bytF : List (List Int32) := [[114, 111, 119], [115, 116, 111, 110, 101], [109, 97, 110]]
def gR (G : aG) (S : aS) (h : aH) (H : Heap) : Prop := va_P G.1 classes (gW G S h) H ∧ S.take 8 = oldS G.2.2.2.1 ∧ SOk S ∧ (∀ q, q < G.2.2.1 → H[q]? = G.2.2.2.2.2.2[q]?) ∧ (∀ j, j < G.2.2.2.1 → h.1 0 j = G.2.2.2.2.2.1 j) ∧ (∀ j, j < 4 → h.1 1 j = strF j) ∧ ∀ i, i < 3 → ∀ j, j < lenF.getD i 0 → h.1 (5 + i) j = (bytF.getD i []).getD j 0
def slc (S : aS) : Nat := (S.map fun e => e.2.1).sum
def isNst : Cond → Bool
  | .methodLinkNest .. | .fieldLinkNest .. | .declares .. | .arrayOver (.object _) => true
  | _ => false
/-- what is said of the tables, and of the old cells -/
def gC (G : aG) (U : State) : Prop := va_K G.1 classes (gtys G) U ∧ va_X (gad G 0) G.2.2.2.1 G.2.2.2.2.2.1 U G.2.2.2.2.2.2 ∧ va_Z "RopeRound" "STRIDES" "[I" (.ref (gad G 1)) (gA G) U G.2.2.2.2.2.2 ∧ va_T .int (gad G 1) 4 (fun j => .int (strF j)) (gA G) U G.2.2.2.2.2.2 ∧
  vk_S 3 lenF bytF (fun i => gad G (2 + i)) (fun i => gad G (5 + i)) (gA G) U G.2.2.2.2.2.2 ∧ (vk_R "RopeRound$Reader" 57 "row" (gad G 2) U ∧ vk_R "RopeRound$Reader" 73 "stone" (gad G 3) U ∧ vk_R "RopeRound$Reader" 78 "man" (gad G 4) U) ∧ va_Z "java/lang/String" "COMPACT_STRINGS" "Z" (.int 1) (gA G) U G.2.2.2.2.2.2 ∧
  (∀ w ∈ tb, isNst w = true → va_Nw w U) ∧ G.2.2.2.2.2.2.size = G.2.2.1 ∧ gad G 0 < G.2.2.1 ∧ G.2.2.2.1 < 2 ^ 31 ∧ va_Z "jdk/internal/util/Preconditions" "SIOOBE_FORMATTER" "Ljava/util/function/BiFunction;" (gfm G) (gA G) U G.2.2.2.2.2.2
theorem gC.warm {G : aG} {s U : State} (hW : s.WarmedH U.vm) (h : gC G s) : gC G U := by
  obtain ⟨h1, h2, h3, h4, h5, ⟨h6, h7, h8⟩, h9, h10, h11, h12, h13, h14⟩ := h
  refine ⟨h1.moved hW.alike, h2.moved hW.alike, h3.moved hW.alike, h4.moved hW.alike, h5.moved hW.alike, ⟨h6.warm hW, h7.warm hW, h8.warm hW⟩, h9.moved hW.alike, fun w hw hn => ?_, h11, h12, h13, h14.moved hW.alike⟩
  have z := h10 w hw hn
  match w, hn, z with
  | .methodLinkNest .., _, z => exact va_Nw.warmM hW z
  | .fieldLinkNest .., _, z => exact va_Nw.warmF hW z
  | .declares .., _, z => exact va_Nw.warmD hW z
  | .arrayOver (.object _), _, z => exact va_AO.moved hW.alike z
theorem gC.same {G : aG} {u U : State} (hv : U.vm = u.vm) (h : gC G u) : gC G U := by
  obtain ⟨h1, h2, h3, h4, h5, ⟨h6, h7, h8⟩, h9, h10, h11, h12, h13, h14⟩ := h
  have ha : u.vm.Alike U.vm := by rw [hv]; exact Vm.Alike.refl _
  refine ⟨h1.moved ha, h2.moved ha, h3.moved ha, h4.moved ha, h5.moved ha, ⟨h6.same hv, h7.same hv, h8.same hv⟩, h9.moved ha, fun w hw hn => ?_, h11, h12, h13, h14.moved ha⟩
  have z := h10 w hw hn
  match w, hn, z with
  | .methodLinkNest .., _, z => exact va_Nw.same rfl hv.symm z
  | .fieldLinkNest .., _, z => exact va_Nw.same rfl hv.symm z
  | .declares .., _, z => exact va_Nw.same rfl hv.symm z
  | .arrayOver (.object _), _, z => exact va_AO.moved ha z
/-! lists -/
theorem gad_new {G : aG} {c : Nat} (h : 8 ≤ c) : gad G c = G.2.2.1 + (c - 8) := by unfold gad; rw [if_neg (by omega)]
theorem gW_at {G : aG} {S : aS} {h : aH} {c : Nat} (h8 : 8 ≤ c) (hc : c < S.length) : (gW G S h)[c - 8]? = some (gad G c, gX G h c (S.getD c (999, 0, []))) := by
  unfold gW
  rw [List.getElem?_map, List.getElem?_range (by omega), gad_new h8]
  simp only [Option.map_some]
  rw [show c - 8 + 8 = c by omega]
theorem gW_len {G : aG} {S : aS} {h : aH} : (gW G S h).length = S.length - 8 := by simp [gW]
theorem gW_inv {G : aG} {S : aS} {h : aH} {i : Nat} {q : Nat × va_E} (hq : (gW G S h)[i]? = some q) : i + 8 < S.length ∧ q = (G.2.2.1 + i, gX G h (i + 8) (S.getD (i + 8) (999, 0, []))) := by
  have hl : i < (gW G S h).length := (List.getElem?_eq_some_iff.mp hq).1
  rw [gW_len] at hl
  have h1 := gW_at (G := G) (S := S) (h := h) (c := i + 8) (by omega) (by omega)
  rw [show i + 8 - 8 = i by omega] at h1
  refine ⟨by omega, ?_⟩
  rw [hq] at h1
  have h2 := Option.some.inj h1
  rw [h2, gad_new (by omega), show i + 8 - 8 = i by omega]
theorem gW_D {G : aG} {S : aS} {h : aH} : va_D (gA G) (gW G S h) := by
  refine ⟨fun i j p q hp hq e => ?_, fun k q hq => ?_⟩
  · rw [(gW_inv hp).2, (gW_inv hq).2] at e
    simp only at e
    omega
  · rw [(gW_inv hq).2]
    show G.2.2.1 ≤ G.2.2.1 + k
    omega
theorem gX_eq {G : aG} {h h' : aH} {c : Nat} (e : aE) (h1 : ∀ k, h'.1 c k = h.1 c k) (h2 : ∀ k, h'.2.1 c k = h.2.1 c k) (h3 : ∀ k, h'.2.2 c k = h.2.2 c k) : gX G h' c e = gX G h c e := by
  have e1 : h'.1 c = h.1 c := funext h1
  have e2 : h'.2.1 c = h.2.1 c := funext h2
  unfold gX gFV
  simp only [h1, h2, h3, e1, e2]
theorem gW_ext {G : aG} {S' : aS} {h' : aH} {w : va_W} (hl : w.length = S'.length - 8) (hk : ∀ c, 8 ≤ c → c < S'.length → w[c - 8]? = some (gad G c, gX G h' c (S'.getD c (999, 0, [])))) : gW G S' h' = w := by
  apply List.ext_getElem?
  intro i
  by_cases hi : i < S'.length - 8
  · have h1 := gW_at (G := G) (S := S') (h := h') (c := i + 8) (by omega) (by omega)
    have h2 := hk (i + 8) (by omega) (by omega)
    rw [show i + 8 - 8 = i by omega] at h1 h2
    rw [h1, h2]
  · rw [List.getElem?_eq_none (by rw [gW_len]; omega), List.getElem?_eq_none (by omega)]
/-- a cell's contents change -/
theorem gW_set {G : aG} {S : aS} {h h' : aH} {c : Nat} (h8 : 8 ≤ c) (hc : c < S.length) (h1 : ∀ c', c' ≠ c → ∀ k, h'.1 c' k = h.1 c' k) (h2 : ∀ c', c' ≠ c → ∀ k, h'.2.1 c' k = h.2.1 c' k) (h3 : ∀ c', c' ≠ c → ∀ k, h'.2.2 c' k = h.2.2 c' k) {x : va_E} (hx : gX G h' c (S.getD c (999, 0, [])) = x) :
    gW G S h' = (gW G S h).set (c - 8) (gad G c, x) := by
  refine gW_ext (by rw [List.length_set, gW_len]) (fun c' g8 gc => ?_)
  by_cases e : c' = c
  · subst e
    rw [List.getElem?_set_self (by rw [gW_len]; omega), hx]
  · rw [List.getElem?_set_ne (by omega), gW_at g8 gc, gX_eq (h' := h') (h := h) _ (h1 c' e) (h2 c' e) (h3 c' e)]
/-- a cell's shape changes -/
theorem gW_shape {G : aG} {S S' : aS} {h : aH} {c : Nat} (h8 : 8 ≤ c) (hc : c < S.length) (hl : S'.length = S.length) (ho : ∀ c', c' ≠ c → S'.getD c' (999, 0, []) = S.getD c' (999, 0, [])) {x : va_E} (hx : gX G h c (S'.getD c (999, 0, [])) = x) :
    gW G S' h = (gW G S h).set (c - 8) (gad G c, x) := by
  refine gW_ext (by rw [List.length_set, gW_len, hl]) (fun c' g8 gc => ?_)
  by_cases e : c' = c
  · subst e
    rw [List.getElem?_set_self (by rw [gW_len]; omega), hx]
  · rw [List.getElem?_set_ne (by omega), gW_at g8 (by omega), ho c' e]
theorem gW_push {G : aG} {S : aS} {h h' : aH} {e : aE} (h8 : 8 ≤ S.length) (h1 : ∀ c', c' < S.length → ∀ k, h'.1 c' k = h.1 c' k) (h2 : ∀ c', c' < S.length → ∀ k, h'.2.1 c' k = h.2.1 c' k) (h3 : ∀ c', c' < S.length → ∀ k, h'.2.2 c' k = h.2.2 c' k) :
    gW G (S ++ [e]) h' = gW G S h ++ [(gad G S.length, gX G h' S.length e)] := by
  refine gW_ext (by simp [gW_len]; omega) (fun c' g8 gc => ?_)
  rw [List.length_append, List.length_singleton] at gc
  by_cases hc : c' < S.length
  · rw [List.getElem?_append_left (by rw [gW_len]; omega), gW_at g8 hc, List.getD_eq_getElem?_getD, List.getD_eq_getElem?_getD, List.getElem?_append_left hc, gX_eq (h' := h') (h := h) _ (h1 c' hc) (h2 c' hc) (h3 c' hc)]
  · have hcc : c' = S.length := by omega
    subst hcc
    rw [List.getElem?_append_right (by rw [gW_len]; omega), gW_len, Nat.sub_self, List.getD_eq_getElem?_getD, List.getElem?_append_right (Nat.le_refl _), Nat.sub_self]
    rfl
theorem aK_new {G : aG} {S : aS} {h : aH} {H : Heap} {c : Nat} (hR : gR G S h H) (hk : aK S c < 200) : 8 ≤ c ∧ c < S.length := by
  have hlt : c < S.length := by
    refine Nat.lt_of_not_le (fun q => ?_)
    have e : aK S c = 999 := by unfold aK; rw [List.getD_eq_getElem?_getD, List.getElem?_eq_none q]; rfl
    omega
  refine ⟨Nat.le_of_not_lt (fun q => ?_), hlt⟩
  have e : S.getD c (999, 0, []) = (oldS G.2.2.2.1).getD c (999, 0, []) := by
    rw [← hR.2.1, List.getD_eq_getElem?_getD, List.getD_eq_getElem?_getD, List.getElem?_take_of_lt q]
  have hk2 : ((oldS G.2.2.2.1).getD c (999, 0, [])).1 < 200 := by unfold aK at hk; rw [e] at hk; exact hk
  rcases (show c = 0 ∨ c = 1 ∨ c = 2 ∨ c = 3 ∨ c = 4 ∨ c = 5 ∨ c = 6 ∨ c = 7 by omega) with r | r | r | r | r | r | r | r <;> (subst r; simp [oldS] at hk2)
theorem aK_old {G : aG} {S : aS} {h : aH} {H : Heap} {c : Nat} (hR : gR G S h H) (hc : c < 8) : S.getD c (999, 0, []) = (oldS G.2.2.2.1).getD c (999, 0, []) := by
  rw [← hR.2.1, List.getD_eq_getElem?_getD, List.getD_eq_getElem?_getD, List.getElem?_take_of_lt hc]
theorem gR.len {G : aG} {S : aS} {h : aH} {H : Heap} (hR : gR G S h H) : 8 ≤ S.length := by
  have h1 := congrArg List.length hR.2.1
  rw [List.length_take] at h1
  simp [oldS] at h1
  omega
