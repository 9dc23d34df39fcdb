/-! EACH INSTRUCTION, SIMULATED -/
abbrev aM : Type := MethodName × ByteArray × Nat × Option FieldType
abbrev aEv : Type := Program × Launch × Env × Room × State × MethodId × Array Value × List Frame × Method × Code
abbrev eW (E : aEv) (H : Heap) (locs : List Loc) (cells slots : Nat) (Q : State → Prop) (g : JFrame) : Prop := W E.1 E.2.1 E.2.2.1 E.2.2.2.1 E.2.2.2.2.1 E.2.2.2.2.2.1 E.2.2.2.2.2.2.1 E.2.2.2.2.2.2.2.1 E.2.2.2.2.2.2.2.2.1 E.2.2.2.2.2.2.2.2.2 H locs cells slots Q g
abbrev eS (E : aEv) : State := E.2.2.2.2.1
abbrev eM (E : aEv) : MethodId := E.2.2.2.2.2.1
abbrev eA (E : aEv) : Array Value := E.2.2.2.2.2.2.1
abbrev eR (E : aEv) : Room := E.2.2.2.1
abbrev eC (E : aEv) : Code := E.2.2.2.2.2.2.2.2.2
abbrev eMt (E : aEv) : Method := E.2.2.2.2.2.2.2.2.1
def gLs (G : aG) (ls : List Value) (Ls : Array Slot) (nL : Nat) : Prop := ls.length = nL ∧ Ls.size = nL ∧ lv_wf Ls ∧ ∀ (i : Nat) (v : Value), ls[i]? = some v → v ≠ .null → Ls[i]? = some (.val (gv G v))
/-- what the walk knows: the method's data, the room at its start -/
def MC (G : aG) (E : aEv) (M : aM) (n1 : Nat) : Prop := E.1.tables.exec = Jvm.exec ∧ (eC E).code = M.2.1 ∧ (eC E).maxLocals = M.2.2.1 ∧ (eS E).vm.findClass M.1.cls = some (eM E).cls ∧ (∀ w ∈ tg, w.before (eA E) (eS E) = true) ∧ gC G (eS E) ∧ (eS E).heap.size + 8 = G.2.2.1 + n1 ∧ 8 ≤ n1 ∧ (∀ q, q < G.2.2.1 → (eS E).heap[q]? = G.2.2.2.2.2.2[q]?) ∧ (M.1.name = "<init>" → (eMt E).name = "<init>")
def AW (G : aG) (E : aEv) (M : aM) (n1 z1 : Nat) (Q : State → Prop) (pc : Nat) (ls st : List Value) (S : aS) (h : aH) : Prop :=
  ∀ (H : Heap) (locs : List Loc) (Ls : Array Slot) (cells slots : Nat), gR G S h H → gLs G ls Ls M.2.2.1 → (∀ q ∈ locs, gA G q.base) → n1 + cells = S.length → z1 + slots = slc S → eW E H locs cells slots Q (F0 (eM E) pc Ls (st.map (gv G)))
def RetAt (cc : ByteArray) (rt : Option FieldType) (pc : Nat) (v : Option Value) : Prop := match v with
  | none => decode cc pc = .ok (.return_, 1) ∧ rt = none
  | some (.int x) => decode cc pc = .ok (.ireturn, 1) ∧ ∃ ty, rt = some ty ∧ narrow ty (.int x) = .int x
  | some (.long _) => decode cc pc = .ok (.lreturn, 1) ∧ rt = some .long
  | _ => False
def RW (G : aG) (E : aEv) (M : aM) (n1 z1 : Nat) (Q : State → Prop) (v : Option Value) (S : aS) (h : aH) : Prop :=
  ∀ (pc : Nat), RetAt M.2.1 M.2.2.2 pc v → ∀ (H : Heap) (locs : List Loc) (Ls : Array Slot) (cells slots : Nat), gR G S h H → (∀ q ∈ locs, gA G q.base) → n1 + cells = S.length → z1 + slots = slc S → eW E H locs cells slots Q (F0 (eM E) pc Ls ((v.map (gv G)).toList))
def wsY (y : aM) : List Cond := .code y.1 y.2.1 y.2.2.1 y.2.2.2 :: tg
def cPre (G : aG) (as : List Value) (S : aS) (h : aH) : Array Value → State → Prop := fun a U => a = (as.map (gv G)).toArray ∧ gR G S h U.heap ∧ gC G U ∧ U.heap.size + 8 = G.2.2.1 + S.length
def cPost (G : aG) (r : aR) : Array Value → State → Outcome → State → Prop := fun _ _ o t => o = .returned (r.1.map (gv G)) ∧ gR G r.2.1 r.2.2 t.heap
def rmD (d mc ms : Nat) : Room := { frames := d, cells := mc, slots := ms, locals := 64 * d }
/-- a method's contract, out of the abstract machine's outcome -/
def Ct (G : aG) (l : Launch) (y : aM) (d : Nat) (as : List Value) (S : aS) (h : aH) (r : aR) : Prop := Met l y.1 (wsY y) (rmD d (r.2.1.length - S.length) (slc r.2.1 - slc S)) (cPre G as S h) (cPost G r) (r.2.1.length - S.length) (slc r.2.1 - slc S) (gA G)
def SimO (G : aG) (E : aEv) (mT : Nat → aM) (M : aM) (n1 z1 d : Nat) (Q : State → Prop) (pc : Nat) (ls st : List Value) (S : aS) (h : aH) (o : aN ⊕ (aR ⊕ aC)) : Prop := match o with
  | .inl (n, ls', st', S', h') => S'.length ≤ n1 + (eR E).cells → slc S' ≤ z1 + (eR E).slots → AW G E M n1 z1 Q n ls' st' S' h' → AW G E M n1 z1 Q pc ls st S h
  | .inr (.inl (v, S', h')) => RW G E M n1 z1 Q v S' h' → AW G E M n1 z1 Q pc ls st S h
  | .inr (.inr (y, as, n, ls', st', S', h')) => ∀ (r : aR), (∃ d', d = d' + 1 ∧ Ct G E.2.1 (mT y) d' as S' h' r) → S'.length ≤ r.2.1.length → slc S' ≤ slc r.2.1 → r.2.1.length ≤ n1 + (eR E).cells → slc r.2.1 ≤ z1 + (eR E).slots → AW G E M n1 z1 Q n ls' (r.1.toList ++ st') r.2.1 r.2.2 → AW G E M n1 z1 Q pc ls st S h
def Sim (mT : Nat → aM) (M : aM) (pc : Nat) (op : aP) : Prop := ∀ (G : aG) (E : aEv) (n1 z1 d : Nat) (Q : State → Prop), MC G E M n1 → d ≤ (eR E).frames → 64 * d ≤ (eR E).locals → ∀ (ls st : List Value) (S : aS) (h : aH) (o : aN ⊕ (aR ⊕ aC)), op d ls st S h = some o → SimO G E mT M n1 z1 d Q pc ls st S h o
theorem gv_cat (G : aG) (v : Value) : (gv G v).category = v.category := by
  cases v <;> first | rfl | (show (gfm G).category = 1; unfold gfm; split <;> rfl)
theorem gv_sum (G : aG) (st : List Value) : ((st.map (gv G)).map fun v => v.category).sum = (st.map fun v => v.category).sum := by
  rw [List.map_map]
  congr 1
  exact List.map_congr_left (fun v _ => gv_cat G v)
/-- the locals behind a store -/
def lvp (G : aG) (ls : List Value) : List (Nat × Value) := (List.range ls.length).filterMap (fun j => match ls[j]? with
    | some w => if w = .null then none else some (j, gv G w)
    | none => none)
theorem lvp_mem {G : aG} {ls : List Value} (q : Nat × Value) : q ∈ lvp G ls ↔ ∃ w, ls[q.1]? = some w ∧ w ≠ .null ∧ q.2 = gv G w := by
  constructor
  · intro hq
    obtain ⟨j, -, hj⟩ := List.mem_filterMap.mp hq
    cases hw : ls[j]? with
    | none => simp [hw] at hj
    | some w =>
      simp only [hw] at hj
      by_cases hn : w = .null
      · simp [hn] at hj
      · rw [if_neg hn] at hj
        cases hj
        exact ⟨w, hw, hn, rfl⟩
  · intro ⟨w, hw, hn, e⟩
    refine List.mem_filterMap.mpr ⟨q.1, ?_, ?_⟩
    · have := (List.getElem?_eq_some_iff.mp hw).1
      exact List.mem_range.mpr (by omega)
    · simp only [hw]
      rw [if_neg hn, ← e]
theorem gLs.has {G : aG} {ls : List Value} {Ls : Array Slot} {nL : Nat} (hL : gLs G ls Ls nL) : lv_has Ls nL (lvp G ls) := by
  refine ⟨hL.2.1, hL.2.2.1, fun q hq => ?_⟩
  obtain ⟨w, hw, hn, e⟩ := (lvp_mem q).mp hq
  rw [e]
  exact hL.2.2.2 q.1 w hw hn
theorem lset1_len (ls : List Value) (i : Nat) (v : Value) : (lset1 ls i v).length = ls.length := by
  unfold lset1
  rw [List.length_set]
  split
  · rfl
  · split
    · rw [List.length_set]
    · rfl
theorem lset1_get {ls : List Value} {i j : Nat} {v w : Value} (hj : (lset1 ls i v)[j]? = some w) (hn : w ≠ .null) : (j = i ∧ w = v) ∨ (j ≠ i ∧ ls[j]? = some w ∧ ¬ (j + 1 = i ∧ w.category = 2)) := by
  by_cases e : j = i
  · subst e
    left
    refine ⟨rfl, ?_⟩
    have hjl : j < (lset1 ls j v).length := (List.getElem?_eq_some_iff.mp hj).1
    unfold lset1 at hj hjl
    rw [List.length_set] at hjl
    rw [List.getElem?_set_self hjl] at hj
    exact (Option.some.inj hj).symm
  · right
    refine ⟨e, ?_⟩
    unfold lset1 at hj
    rw [List.getElem?_set_ne (fun z => e z.symm)] at hj
    cases i with
    | zero => exact ⟨hj, fun z => by omega⟩
    | succ i0 =>
      dsimp only at hj
      by_cases hc : (ls.getD i0 .null).category = 2
      · rw [if_pos hc] at hj
        by_cases e2 : j = i0
        · subst e2
          have hjl : j < ls.length := by
            have := (List.getElem?_eq_some_iff.mp hj).1
            rwa [List.length_set] at this
          rw [List.getElem?_set_self hjl] at hj
          exact absurd (Option.some.inj hj).symm hn
        · rw [List.getElem?_set_ne (fun z => e2 z.symm)] at hj
          exact ⟨hj, fun z => e2 (by omega)⟩
      · rw [if_neg hc] at hj
        refine ⟨hj, fun z => hc ?_⟩
        rw [List.getD_eq_getElem?_getD, show i0 = j by omega, hj]
        exact z.2
theorem bool_cat {a : Prop} {j i : Nat} {v : Value} (_ : a) (h : ¬ (j + 1 = i ∧ v.category = 2)) : (!(j + 1 == i && v.category == 2)) = true := by
  cases hb : (j + 1 == i && v.category == 2) with
  | false => rfl
  | true =>
    simp only [Bool.and_eq_true, beq_iff_eq] at hb
    exact absurd hb h
theorem gLs.set1 {G : aG} {ls : List Value} {Ls Ls' : Array Slot} {nL i : Nat} {v : Value} (hL : gLs G ls Ls nL) (hh : lv_has Ls' nL ((i, gv G v) :: (lvp G ls).filter (fun q => !(q.1 == i) && !(q.1 + 1 == i && q.2.category == 2)))) : gLs G (lset1 ls i v) Ls' nL := by
  obtain ⟨g1, g2, g3⟩ := hh
  refine ⟨(lset1_len ls i v).trans hL.1, g1, g2, fun j w hj hn => ?_⟩
  rcases lset1_get hj hn with ⟨rfl, rfl⟩ | ⟨h1, h2, h3⟩
  · exact g3 _ List.mem_cons_self
  · refine g3 (j, gv G w) (List.mem_cons_of_mem _ (List.mem_filter.mpr ⟨(lvp_mem _).mpr ⟨w, h2, hn, rfl⟩, ?_⟩))
    rw [← gv_cat G w] at h3
    simp only [Bool.and_eq_true]
    exact ⟨by simpa using h1, bool_cat trivial h3⟩
theorem gLs.set2 {G : aG} {ls : List Value} {Ls Ls' : Array Slot} {nL i : Nat} {v : Value} (hL : gLs G ls Ls nL) (hh : lv_has Ls' nL ((i, gv G v) :: (lvp G ls).filter (fun q => !(q.1 == i) && (!(q.1 == i + 1) && !(q.1 + 1 == i && q.2.category == 2))))) : gLs G (lset2 ls i v) Ls' nL := by
  obtain ⟨g1, g2, g3⟩ := hh
  refine ⟨by unfold lset2; rw [List.length_set]; exact (lset1_len ls i v).trans hL.1, g1, g2, fun j w hj hn => ?_⟩
  have e : j ≠ i + 1 := by
    intro e
    subst e
    unfold lset2 at hj
    have hjl : i + 1 < (lset1 ls i v).length := by
      have := (List.getElem?_eq_some_iff.mp hj).1
      rwa [List.length_set] at this
    rw [List.getElem?_set_self hjl] at hj
    exact hn (Option.some.inj hj).symm
  unfold lset2 at hj
  rw [List.getElem?_set_ne (fun z => e z.symm)] at hj
  rcases lset1_get hj hn with ⟨rfl, rfl⟩ | ⟨h1, h2, h3⟩
  · exact g3 _ List.mem_cons_self
  · refine g3 (j, gv G w) (List.mem_cons_of_mem _ (List.mem_filter.mpr ⟨(lvp_mem _).mpr ⟨w, h2, hn, rfl⟩, ?_⟩))
    rw [← gv_cat G w] at h3
    simp only [Bool.and_eq_true]
    exact ⟨by simpa using h1, by simpa using e, bool_cat trivial h3⟩
theorem sim_iconst {mT : Nat → aM} {M : aM} {pc : Nat} {n : Int} {v : Int32} (hd : decode M.2.1 pc = .ok (.iconst n, 1)) (hv : Int32.ofInt n = v) : Sim mT M pc (oPush (.int v) (pc + 1)) := by
  intro G E n1 z1 d Q hM hfr hlo ls st S h o ho
  obtain ⟨hx, hb, hml, hown, hts, hC, hsz, hn1, hold, hnm⟩ := hM
  unfold oPush oNx at ho
  cases ho
  exact fun _ _ K H locs Ls cells slots hR hL hq hc hs => lv_iconst hx hb hd hv (K H locs Ls cells slots hR hL hq hc hs)

theorem sim_bipush {mT : Nat → aM} {M : aM} {pc : Nat} {n : Int} {v : Int32} (hd : decode M.2.1 pc = .ok (.bipush n, 2)) (hv : (Int8.ofInt n).toInt32 = v) : Sim mT M pc (oPush (.int v) (pc + 2)) := by
  intro G E n1 z1 d Q hM hfr hlo ls st S h o ho
  obtain ⟨hx, hb, hml, hown, hts, hC, hsz, hn1, hold, hnm⟩ := hM
  unfold oPush oNx at ho
  cases ho
  exact fun _ _ K H locs Ls cells slots hR hL hq hc hs => lv_bipush hx hb hd hv (K H locs Ls cells slots hR hL hq hc hs)

theorem sim_sipush {mT : Nat → aM} {M : aM} {pc : Nat} {n : Int} {v : Int32} (hd : decode M.2.1 pc = .ok (.sipush n, 3)) (hv : (Int16.ofInt n).toInt32 = v) : Sim mT M pc (oPush (.int v) (pc + 3)) := by
  intro G E n1 z1 d Q hM hfr hlo ls st S h o ho
  obtain ⟨hx, hb, hml, hown, hts, hC, hsz, hn1, hold, hnm⟩ := hM
  unfold oPush oNx at ho
  cases ho
  exact fun _ _ K H locs Ls cells slots hR hL hq hc hs => lv_sipush hx hb hd hv (K H locs Ls cells slots hR hL hq hc hs)

theorem sim_lconst {mT : Nat → aM} {M : aM} {pc : Nat} {n : Fin 2} {v : Int64} (hd : decode M.2.1 pc = .ok (.lconst n, 1)) (hv : Int64.ofNat (n : Nat) = v) : Sim mT M pc (oPush (.long v) (pc + 1)) := by
  intro G E n1 z1 d Q hM hfr hlo ls st S h o ho
  obtain ⟨hx, hb, hml, hown, hts, hC, hsz, hn1, hold, hnm⟩ := hM
  unfold oPush oNx at ho
  cases ho
  exact fun _ _ K H locs Ls cells slots hR hL hq hc hs => lv_lconst hx hb hd hv (K H locs Ls cells slots hR hL hq hc hs)

theorem sim_ldc {mT : Nat → aM} {M : aM} {pc : Nat} {i : Nat} {v : Int32} (hd : decode M.2.1 pc = .ok (.ldc i, 2)) (hw : Cond.constant M.1.cls i v ∈ tg) : Sim mT M pc (oPush (.int v) (pc + 2)) := by
  intro G E n1 z1 d Q hM hfr hlo ls st S h o ho
  obtain ⟨hx, hb, hml, hown, hts, hC, hsz, hn1, hold, hnm⟩ := hM
  unfold oPush oNx at ho
  cases ho
  exact fun _ _ K H locs Ls cells slots hR hL hq hc hs => lv_ldc hx hb hown (hts _ hw) hd (K H locs Ls cells slots hR hL hq hc hs)

theorem sim_ldcw {mT : Nat → aM} {M : aM} {pc : Nat} {i : Nat} {v : Int32} (hd : decode M.2.1 pc = .ok (.ldc_w i, 3)) (hw : Cond.constant M.1.cls i v ∈ tg) : Sim mT M pc (oPush (.int v) (pc + 3)) := by
  intro G E n1 z1 d Q hM hfr hlo ls st S h o ho
  obtain ⟨hx, hb, hml, hown, hts, hC, hsz, hn1, hold, hnm⟩ := hM
  unfold oPush oNx at ho
  cases ho
  exact fun _ _ K H locs Ls cells slots hR hL hq hc hs => lv_ldcw hx hb hown (hts _ hw) hd (K H locs Ls cells slots hR hL hq hc hs)

theorem sim_ldc2 {mT : Nat → aM} {M : aM} {pc : Nat} {i : Nat} {v : Int64} (hd : decode M.2.1 pc = .ok (.ldc2_w i, 3)) (hw : Cond.constantLong M.1.cls i v ∈ tg) : Sim mT M pc (oPush (.long v) (pc + 3)) := by
  intro G E n1 z1 d Q hM hfr hlo ls st S h o ho
  obtain ⟨hx, hb, hml, hown, hts, hC, hsz, hn1, hold, hnm⟩ := hM
  unfold oPush oNx at ho
  cases ho
  exact fun _ _ K H locs Ls cells slots hR hL hq hc hs => lv_ldc2 hx hb hown (hts _ hw) hd (K H locs Ls cells slots hR hL hq hc hs)

theorem sim_iload_n {mT : Nat → aM} {M : aM} {pc : Nat} {k : Fin 4} {i : Nat} (hd : decode M.2.1 pc = .ok (.iload_n k, 1)) (hk : (k : Nat) = i) : Sim mT M pc (oLdI i (pc + 1)) := by
  intro G E n1 z1 d Q hM hfr hlo ls st S h o ho
  obtain ⟨hx, hb, hml, hown, hts, hC, hsz, hn1, hold, hnm⟩ := hM
  unfold oLdI oNx at ho
  split at ho
  · next hl => cases ho; exact fun _ _ K H locs Ls cells slots hR hL hq hc hs => lv_iload_n hx hb hd hk (hL.2.2.2 _ _ hl (fun z => by cases z)) (K H locs Ls cells slots hR hL hq hc hs)
  · cases ho

theorem sim_iload {mT : Nat → aM} {M : aM} {pc : Nat} {i : Nat} (hd : decode M.2.1 pc = .ok (.iload i, 2))  : Sim mT M pc (oLdI i (pc + 2)) := by
  intro G E n1 z1 d Q hM hfr hlo ls st S h o ho
  obtain ⟨hx, hb, hml, hown, hts, hC, hsz, hn1, hold, hnm⟩ := hM
  unfold oLdI oNx at ho
  split at ho
  · next hl => cases ho; exact fun _ _ K H locs Ls cells slots hR hL hq hc hs => lv_iload hx hb hd  (hL.2.2.2 _ _ hl (fun z => by cases z)) (K H locs Ls cells slots hR hL hq hc hs)
  · cases ho

theorem sim_lload_n {mT : Nat → aM} {M : aM} {pc : Nat} {k : Fin 4} {i : Nat} (hd : decode M.2.1 pc = .ok (.lload_n k, 1)) (hk : (k : Nat) = i) : Sim mT M pc (oLdL i (pc + 1)) := by
  intro G E n1 z1 d Q hM hfr hlo ls st S h o ho
  obtain ⟨hx, hb, hml, hown, hts, hC, hsz, hn1, hold, hnm⟩ := hM
  unfold oLdL oNx at ho
  split at ho
  · next hl => cases ho; exact fun _ _ K H locs Ls cells slots hR hL hq hc hs => lv_lload_n hx hb hd hk (hL.2.2.2 _ _ hl (fun z => by cases z)) (K H locs Ls cells slots hR hL hq hc hs)
  · cases ho

theorem sim_lload {mT : Nat → aM} {M : aM} {pc : Nat} {i : Nat} (hd : decode M.2.1 pc = .ok (.lload i, 2))  : Sim mT M pc (oLdL i (pc + 2)) := by
  intro G E n1 z1 d Q hM hfr hlo ls st S h o ho
  obtain ⟨hx, hb, hml, hown, hts, hC, hsz, hn1, hold, hnm⟩ := hM
  unfold oLdL oNx at ho
  split at ho
  · next hl => cases ho; exact fun _ _ K H locs Ls cells slots hR hL hq hc hs => lv_lload hx hb hd  (hL.2.2.2 _ _ hl (fun z => by cases z)) (K H locs Ls cells slots hR hL hq hc hs)
  · cases ho

theorem sim_aload_n {mT : Nat → aM} {M : aM} {pc : Nat} {k : Fin 4} {i : Nat} (hd : decode M.2.1 pc = .ok (.aload_n k, 1)) (hk : (k : Nat) = i) : Sim mT M pc (oLdA i (pc + 1)) := by
  intro G E n1 z1 d Q hM hfr hlo ls st S h o ho
  obtain ⟨hx, hb, hml, hown, hts, hC, hsz, hn1, hold, hnm⟩ := hM
  unfold oLdA oNx at ho
  split at ho
  · next hl => cases ho; exact fun _ _ K H locs Ls cells slots hR hL hq hc hs => lv_aload_n hx hb hd hk (hL.2.2.2 _ _ hl (fun z => by cases z)) (K H locs Ls cells slots hR hL hq hc hs)
  · cases ho

theorem sim_aload {mT : Nat → aM} {M : aM} {pc : Nat} {i : Nat} (hd : decode M.2.1 pc = .ok (.aload i, 2))  : Sim mT M pc (oLdA i (pc + 2)) := by
  intro G E n1 z1 d Q hM hfr hlo ls st S h o ho
  obtain ⟨hx, hb, hml, hown, hts, hC, hsz, hn1, hold, hnm⟩ := hM
  unfold oLdA oNx at ho
  split at ho
  · next hl => cases ho; exact fun _ _ K H locs Ls cells slots hR hL hq hc hs => lv_aload hx hb hd  (hL.2.2.2 _ _ hl (fun z => by cases z)) (K H locs Ls cells slots hR hL hq hc hs)
  · cases ho

theorem sim_istore_n {mT : Nat → aM} {M : aM} {pc : Nat} {k : Fin 4} {i : Nat} (hd : decode M.2.1 pc = .ok (.istore_n k, 1)) (hk : (k : Nat) = i) (hi : i < M.2.2.1) : Sim mT M pc (oStI i (pc + 1)) := by
  intro G E n1 z1 d Q hM hfr hlo ls st S h o ho
  obtain ⟨hx, hb, hml, hown, hts, hC, hsz, hn1, hold, hnm⟩ := hM
  unfold oStI oNx at ho
  split at ho
  · cases ho; exact fun _ _ K H locs Ls cells slots hR hL hq hc hs => lv_istore_n hx hb hd hk hL.has hi rfl (fun Ls2 hh => K H locs Ls2 cells slots hR (hL.set1 hh) hq hc hs)
  · cases ho

theorem sim_istore {mT : Nat → aM} {M : aM} {pc : Nat} {i : Nat} (hd : decode M.2.1 pc = .ok (.istore i, 2))  (hi : i < M.2.2.1) : Sim mT M pc (oStI i (pc + 2)) := by
  intro G E n1 z1 d Q hM hfr hlo ls st S h o ho
  obtain ⟨hx, hb, hml, hown, hts, hC, hsz, hn1, hold, hnm⟩ := hM
  unfold oStI oNx at ho
  split at ho
  · cases ho; exact fun _ _ K H locs Ls cells slots hR hL hq hc hs => lv_istore hx hb hd  hL.has hi rfl (fun Ls2 hh => K H locs Ls2 cells slots hR (hL.set1 hh) hq hc hs)
  · cases ho

theorem sim_lstore_n {mT : Nat → aM} {M : aM} {pc : Nat} {k : Fin 4} {i : Nat} (hd : decode M.2.1 pc = .ok (.lstore_n k, 1)) (hk : (k : Nat) = i) (hi : i + 1 < M.2.2.1) : Sim mT M pc (oStL i (pc + 1)) := by
  intro G E n1 z1 d Q hM hfr hlo ls st S h o ho
  obtain ⟨hx, hb, hml, hown, hts, hC, hsz, hn1, hold, hnm⟩ := hM
  unfold oStL oNx at ho
  split at ho
  · cases ho; exact fun _ _ K H locs Ls cells slots hR hL hq hc hs => lv_lstore_n hx hb hd hk hL.has hi rfl (fun Ls2 hh => K H locs Ls2 cells slots hR (hL.set2 hh) hq hc hs)
  · cases ho

theorem sim_lstore {mT : Nat → aM} {M : aM} {pc : Nat} {i : Nat} (hd : decode M.2.1 pc = .ok (.lstore i, 2))  (hi : i + 1 < M.2.2.1) : Sim mT M pc (oStL i (pc + 2)) := by
  intro G E n1 z1 d Q hM hfr hlo ls st S h o ho
  obtain ⟨hx, hb, hml, hown, hts, hC, hsz, hn1, hold, hnm⟩ := hM
  unfold oStL oNx at ho
  split at ho
  · cases ho; exact fun _ _ K H locs Ls cells slots hR hL hq hc hs => lv_lstore hx hb hd  hL.has hi rfl (fun Ls2 hh => K H locs Ls2 cells slots hR (hL.set2 hh) hq hc hs)
  · cases ho

theorem sim_astore_n {mT : Nat → aM} {M : aM} {pc : Nat} {k : Fin 4} {i : Nat} (hd : decode M.2.1 pc = .ok (.astore_n k, 1)) (hk : (k : Nat) = i) (hi : i < M.2.2.1) : Sim mT M pc (oStA i (pc + 1)) := by
  intro G E n1 z1 d Q hM hfr hlo ls st S h o ho
  obtain ⟨hx, hb, hml, hown, hts, hC, hsz, hn1, hold, hnm⟩ := hM
  unfold oStA oNx at ho
  split at ho
  · cases ho; exact fun _ _ K H locs Ls cells slots hR hL hq hc hs => lv_astore_n hx hb hd hk hL.has hi rfl (fun Ls2 hh => K H locs Ls2 cells slots hR (hL.set1 hh) hq hc hs)
  · cases ho

theorem sim_astore {mT : Nat → aM} {M : aM} {pc : Nat} {i : Nat} (hd : decode M.2.1 pc = .ok (.astore i, 2))  (hi : i < M.2.2.1) : Sim mT M pc (oStA i (pc + 2)) := by
  intro G E n1 z1 d Q hM hfr hlo ls st S h o ho
  obtain ⟨hx, hb, hml, hown, hts, hC, hsz, hn1, hold, hnm⟩ := hM
  unfold oStA oNx at ho
  split at ho
  · cases ho; exact fun _ _ K H locs Ls cells slots hR hL hq hc hs => lv_astore hx hb hd  hL.has hi rfl (fun Ls2 hh => K H locs Ls2 cells slots hR (hL.set1 hh) hq hc hs)
  · cases ho

theorem sim_iinc {mT : Nat → aM} {M : aM} {pc : Nat} {i : Nat} {n : Int} {k : Int32} (hd : decode M.2.1 pc = .ok (.iinc i n, 3)) (hk : Int32.ofInt n = k) (hi : i < M.2.2.1) : Sim mT M pc (oInc i k (pc + 3)) := by
  intro G E n1 z1 d Q hM hfr hlo ls st S h o ho
  obtain ⟨hx, hb, hml, hown, hts, hC, hsz, hn1, hold, hnm⟩ := hM
  unfold oInc oNx at ho
  split at ho
  · next x hl =>
    cases ho
    intro _ _ K H locs Ls cells slots hR hL hq hc hs
    obtain ⟨j, hj⟩ := List.getElem?_of_mem ((lvp_mem (G := G) (ls := ls) (i, .int x)).mpr ⟨_, hl, (fun z => by cases z), rfl⟩)
    exact lv_iinc hx hb hd hL.has hj (by rw [hk]) hi rfl (fun Ls2 hh => K H locs Ls2 cells slots hR (hL.set1 hh) hq hc hs)
  · cases ho

theorem sim_iadd {mT : Nat → aM} {M : aM} {pc : Nat} (hd : decode M.2.1 pc = .ok (.iadd, 1)) : Sim mT M pc (oII (fun x y => x + y) (pc + 1)) := by
  intro G E n1 z1 d Q hM hfr hlo ls st S h o ho
  obtain ⟨hx, hb, hml, hown, hts, hC, hsz, hn1, hold, hnm⟩ := hM
  unfold oII oNx at ho
  split at ho
  · cases ho
    exact fun _ _ K H locs Ls cells slots hR hL hq hc hs => lv_iadd hx hb hd (K H locs Ls cells slots hR hL hq hc hs)
  · cases ho

theorem sim_isub {mT : Nat → aM} {M : aM} {pc : Nat} (hd : decode M.2.1 pc = .ok (.isub, 1)) : Sim mT M pc (oII (fun x y => x - y) (pc + 1)) := by
  intro G E n1 z1 d Q hM hfr hlo ls st S h o ho
  obtain ⟨hx, hb, hml, hown, hts, hC, hsz, hn1, hold, hnm⟩ := hM
  unfold oII oNx at ho
  split at ho
  · cases ho
    exact fun _ _ K H locs Ls cells slots hR hL hq hc hs => lv_isub hx hb hd (K H locs Ls cells slots hR hL hq hc hs)
  · cases ho

theorem sim_imul {mT : Nat → aM} {M : aM} {pc : Nat} (hd : decode M.2.1 pc = .ok (.imul, 1)) : Sim mT M pc (oII (fun x y => x * y) (pc + 1)) := by
  intro G E n1 z1 d Q hM hfr hlo ls st S h o ho
  obtain ⟨hx, hb, hml, hown, hts, hC, hsz, hn1, hold, hnm⟩ := hM
  unfold oII oNx at ho
  split at ho
  · cases ho
    exact fun _ _ K H locs Ls cells slots hR hL hq hc hs => lv_imul hx hb hd (K H locs Ls cells slots hR hL hq hc hs)
  · cases ho

theorem sim_iand {mT : Nat → aM} {M : aM} {pc : Nat} (hd : decode M.2.1 pc = .ok (.iand, 1)) : Sim mT M pc (oII (fun x y => x &&& y) (pc + 1)) := by
  intro G E n1 z1 d Q hM hfr hlo ls st S h o ho
  obtain ⟨hx, hb, hml, hown, hts, hC, hsz, hn1, hold, hnm⟩ := hM
  unfold oII oNx at ho
  split at ho
  · cases ho
    exact fun _ _ K H locs Ls cells slots hR hL hq hc hs => lv_iand hx hb hd (K H locs Ls cells slots hR hL hq hc hs)
  · cases ho

theorem sim_ior {mT : Nat → aM} {M : aM} {pc : Nat} (hd : decode M.2.1 pc = .ok (.ior, 1)) : Sim mT M pc (oII (fun x y => x ||| y) (pc + 1)) := by
  intro G E n1 z1 d Q hM hfr hlo ls st S h o ho
  obtain ⟨hx, hb, hml, hown, hts, hC, hsz, hn1, hold, hnm⟩ := hM
  unfold oII oNx at ho
  split at ho
  · cases ho
    exact fun _ _ K H locs Ls cells slots hR hL hq hc hs => lv_ior hx hb hd (K H locs Ls cells slots hR hL hq hc hs)
  · cases ho

theorem sim_ixor {mT : Nat → aM} {M : aM} {pc : Nat} (hd : decode M.2.1 pc = .ok (.ixor, 1)) : Sim mT M pc (oII (fun x y => x ^^^ y) (pc + 1)) := by
  intro G E n1 z1 d Q hM hfr hlo ls st S h o ho
  obtain ⟨hx, hb, hml, hown, hts, hC, hsz, hn1, hold, hnm⟩ := hM
  unfold oII oNx at ho
  split at ho
  · cases ho
    exact fun _ _ K H locs Ls cells slots hR hL hq hc hs => lv_ixor hx hb hd (K H locs Ls cells slots hR hL hq hc hs)
  · cases ho

theorem sim_ishl {mT : Nat → aM} {M : aM} {pc : Nat} (hd : decode M.2.1 pc = .ok (.ishl, 1)) : Sim mT M pc (oII (fun x y => x <<< (y &&& 31)) (pc + 1)) := by
  intro G E n1 z1 d Q hM hfr hlo ls st S h o ho
  obtain ⟨hx, hb, hml, hown, hts, hC, hsz, hn1, hold, hnm⟩ := hM
  unfold oII oNx at ho
  split at ho
  · cases ho
    exact fun _ _ K H locs Ls cells slots hR hL hq hc hs => lv_ishl hx hb hd (K H locs Ls cells slots hR hL hq hc hs)
  · cases ho

theorem sim_ishr {mT : Nat → aM} {M : aM} {pc : Nat} (hd : decode M.2.1 pc = .ok (.ishr, 1)) : Sim mT M pc (oII (fun x y => x >>> (y &&& 31)) (pc + 1)) := by
  intro G E n1 z1 d Q hM hfr hlo ls st S h o ho
  obtain ⟨hx, hb, hml, hown, hts, hC, hsz, hn1, hold, hnm⟩ := hM
  unfold oII oNx at ho
  split at ho
  · cases ho
    exact fun _ _ K H locs Ls cells slots hR hL hq hc hs => lv_ishr hx hb hd (K H locs Ls cells slots hR hL hq hc hs)
  · cases ho

theorem sim_idiv {mT : Nat → aM} {M : aM} {pc : Nat} (hd : decode M.2.1 pc = .ok (.idiv, 1)) : Sim mT M pc (oIId (fun x y => x / y) (pc + 1)) := by
  intro G E n1 z1 d Q hM hfr hlo ls st S h o ho
  obtain ⟨hx, hb, hml, hown, hts, hC, hsz, hn1, hold, hnm⟩ := hM
  unfold oIId oNx at ho
  split at ho
  · obtain ⟨hg, ho⟩ := gd_some ho
    cases ho
    exact fun _ _ K H locs Ls cells slots hR hL hq hc hs => lv_idiv hx hb hd hg (K H locs Ls cells slots hR hL hq hc hs)
  · cases ho

theorem sim_irem {mT : Nat → aM} {M : aM} {pc : Nat} (hd : decode M.2.1 pc = .ok (.irem, 1)) : Sim mT M pc (oIId (fun x y => x - x / y * y) (pc + 1)) := by
  intro G E n1 z1 d Q hM hfr hlo ls st S h o ho
  obtain ⟨hx, hb, hml, hown, hts, hC, hsz, hn1, hold, hnm⟩ := hM
  unfold oIId oNx at ho
  split at ho
  · obtain ⟨hg, ho⟩ := gd_some ho
    cases ho
    exact fun _ _ K H locs Ls cells slots hR hL hq hc hs => lv_irem hx hb hd hg (K H locs Ls cells slots hR hL hq hc hs)
  · cases ho

theorem sim_ineg {mT : Nat → aM} {M : aM} {pc : Nat} (hd : decode M.2.1 pc = .ok (.ineg, 1)) : Sim mT M pc (oI (fun x => -x) (pc + 1)) := by
  intro G E n1 z1 d Q hM hfr hlo ls st S h o ho
  obtain ⟨hx, hb, hml, hown, hts, hC, hsz, hn1, hold, hnm⟩ := hM
  unfold oI oNx at ho
  split at ho
  · cases ho
    exact fun _ _ K H locs Ls cells slots hR hL hq hc hs => lv_ineg hx hb hd (K H locs Ls cells slots hR hL hq hc hs)
  · cases ho

theorem sim_i2b {mT : Nat → aM} {M : aM} {pc : Nat} (hd : decode M.2.1 pc = .ok (.i2b, 1)) : Sim mT M pc (oI (fun x => x.toInt8.toInt32) (pc + 1)) := by
  intro G E n1 z1 d Q hM hfr hlo ls st S h o ho
  obtain ⟨hx, hb, hml, hown, hts, hC, hsz, hn1, hold, hnm⟩ := hM
  unfold oI oNx at ho
  split at ho
  · cases ho
    exact fun _ _ K H locs Ls cells slots hR hL hq hc hs => lv_i2b hx hb hd rfl (K H locs Ls cells slots hR hL hq hc hs)
  · cases ho

theorem sim_i2s {mT : Nat → aM} {M : aM} {pc : Nat} (hd : decode M.2.1 pc = .ok (.i2s, 1)) : Sim mT M pc (oI (fun x => x.toInt16.toInt32) (pc + 1)) := by
  intro G E n1 z1 d Q hM hfr hlo ls st S h o ho
  obtain ⟨hx, hb, hml, hown, hts, hC, hsz, hn1, hold, hnm⟩ := hM
  unfold oI oNx at ho
  split at ho
  · cases ho
    exact fun _ _ K H locs Ls cells slots hR hL hq hc hs => lv_i2s hx hb hd rfl (K H locs Ls cells slots hR hL hq hc hs)
  · cases ho

theorem sim_i2c {mT : Nat → aM} {M : aM} {pc : Nat} (hd : decode M.2.1 pc = .ok (.i2c, 1)) : Sim mT M pc (oI (fun x => (x.toUInt32 % 65536).toInt32) (pc + 1)) := by
  intro G E n1 z1 d Q hM hfr hlo ls st S h o ho
  obtain ⟨hx, hb, hml, hown, hts, hC, hsz, hn1, hold, hnm⟩ := hM
  unfold oI oNx at ho
  split at ho
  · cases ho
    exact fun _ _ K H locs Ls cells slots hR hL hq hc hs => lv_i2c hx hb hd rfl (K H locs Ls cells slots hR hL hq hc hs)
  · cases ho

theorem sim_i2l {mT : Nat → aM} {M : aM} {pc : Nat} (hd : decode M.2.1 pc = .ok (.i2l, 1)) : Sim mT M pc (oIL (fun x => x.toInt64) (pc + 1)) := by
  intro G E n1 z1 d Q hM hfr hlo ls st S h o ho
  obtain ⟨hx, hb, hml, hown, hts, hC, hsz, hn1, hold, hnm⟩ := hM
  unfold oIL oNx at ho
  split at ho
  · cases ho
    exact fun _ _ K H locs Ls cells slots hR hL hq hc hs => lv_i2l hx hb hd rfl (K H locs Ls cells slots hR hL hq hc hs)
  · cases ho

theorem sim_l2i {mT : Nat → aM} {M : aM} {pc : Nat} (hd : decode M.2.1 pc = .ok (.l2i, 1)) : Sim mT M pc (oLI (fun x => x.toInt32) (pc + 1)) := by
  intro G E n1 z1 d Q hM hfr hlo ls st S h o ho
  obtain ⟨hx, hb, hml, hown, hts, hC, hsz, hn1, hold, hnm⟩ := hM
  unfold oLI oNx at ho
  split at ho
  · cases ho
    exact fun _ _ K H locs Ls cells slots hR hL hq hc hs => lv_l2i hx hb hd rfl (K H locs Ls cells slots hR hL hq hc hs)
  · cases ho

theorem sim_ladd {mT : Nat → aM} {M : aM} {pc : Nat} (hd : decode M.2.1 pc = .ok (.ladd, 1)) : Sim mT M pc (oLL (fun x y => x + y) (pc + 1)) := by
  intro G E n1 z1 d Q hM hfr hlo ls st S h o ho
  obtain ⟨hx, hb, hml, hown, hts, hC, hsz, hn1, hold, hnm⟩ := hM
  unfold oLL oNx at ho
  split at ho
  · cases ho
    exact fun _ _ K H locs Ls cells slots hR hL hq hc hs => lv_ladd hx hb hd (K H locs Ls cells slots hR hL hq hc hs)
  · cases ho

theorem sim_lsub {mT : Nat → aM} {M : aM} {pc : Nat} (hd : decode M.2.1 pc = .ok (.lsub, 1)) : Sim mT M pc (oLL (fun x y => x - y) (pc + 1)) := by
  intro G E n1 z1 d Q hM hfr hlo ls st S h o ho
  obtain ⟨hx, hb, hml, hown, hts, hC, hsz, hn1, hold, hnm⟩ := hM
  unfold oLL oNx at ho
  split at ho
  · cases ho
    exact fun _ _ K H locs Ls cells slots hR hL hq hc hs => lv_lsub hx hb hd (K H locs Ls cells slots hR hL hq hc hs)
  · cases ho

theorem sim_land {mT : Nat → aM} {M : aM} {pc : Nat} (hd : decode M.2.1 pc = .ok (.land, 1)) : Sim mT M pc (oLL (fun x y => x &&& y) (pc + 1)) := by
  intro G E n1 z1 d Q hM hfr hlo ls st S h o ho
  obtain ⟨hx, hb, hml, hown, hts, hC, hsz, hn1, hold, hnm⟩ := hM
  unfold oLL oNx at ho
  split at ho
  · cases ho
    exact fun _ _ K H locs Ls cells slots hR hL hq hc hs => lv_land hx hb hd (K H locs Ls cells slots hR hL hq hc hs)
  · cases ho

theorem sim_lor {mT : Nat → aM} {M : aM} {pc : Nat} (hd : decode M.2.1 pc = .ok (.lor, 1)) : Sim mT M pc (oLL (fun x y => x ||| y) (pc + 1)) := by
  intro G E n1 z1 d Q hM hfr hlo ls st S h o ho
  obtain ⟨hx, hb, hml, hown, hts, hC, hsz, hn1, hold, hnm⟩ := hM
  unfold oLL oNx at ho
  split at ho
  · cases ho
    exact fun _ _ K H locs Ls cells slots hR hL hq hc hs => lv_lor hx hb hd (K H locs Ls cells slots hR hL hq hc hs)
  · cases ho

theorem sim_lxor {mT : Nat → aM} {M : aM} {pc : Nat} (hd : decode M.2.1 pc = .ok (.lxor, 1)) : Sim mT M pc (oLL (fun x y => x ^^^ y) (pc + 1)) := by
  intro G E n1 z1 d Q hM hfr hlo ls st S h o ho
  obtain ⟨hx, hb, hml, hown, hts, hC, hsz, hn1, hold, hnm⟩ := hM
  unfold oLL oNx at ho
  split at ho
  · cases ho
    exact fun _ _ K H locs Ls cells slots hR hL hq hc hs => lv_lxor hx hb hd (K H locs Ls cells slots hR hL hq hc hs)
  · cases ho

theorem sim_lshl {mT : Nat → aM} {M : aM} {pc : Nat} (hd : decode M.2.1 pc = .ok (.lshl, 1)) : Sim mT M pc (oLSh (fun x y => x <<< (y.toInt64 &&& 63)) (pc + 1)) := by
  intro G E n1 z1 d Q hM hfr hlo ls st S h o ho
  obtain ⟨hx, hb, hml, hown, hts, hC, hsz, hn1, hold, hnm⟩ := hM
  unfold oLSh oNx at ho
  split at ho
  · cases ho
    exact fun _ _ K H locs Ls cells slots hR hL hq hc hs => lv_lshl hx hb hd rfl (K H locs Ls cells slots hR hL hq hc hs)
  · cases ho

theorem sim_lshr {mT : Nat → aM} {M : aM} {pc : Nat} (hd : decode M.2.1 pc = .ok (.lshr, 1)) : Sim mT M pc (oLSh (fun x y => x >>> (y.toInt64 &&& 63)) (pc + 1)) := by
  intro G E n1 z1 d Q hM hfr hlo ls st S h o ho
  obtain ⟨hx, hb, hml, hown, hts, hC, hsz, hn1, hold, hnm⟩ := hM
  unfold oLSh oNx at ho
  split at ho
  · cases ho
    exact fun _ _ K H locs Ls cells slots hR hL hq hc hs => lv_lshr hx hb hd rfl (K H locs Ls cells slots hR hL hq hc hs)
  · cases ho

theorem sim_lushr {mT : Nat → aM} {M : aM} {pc : Nat} (hd : decode M.2.1 pc = .ok (.lushr, 1)) : Sim mT M pc (oLSh (fun x y => (x.toUInt64 >>> (y.toInt64.toUInt64 &&& Int64.toUInt64 63)).toInt64) (pc + 1)) := by
  intro G E n1 z1 d Q hM hfr hlo ls st S h o ho
  obtain ⟨hx, hb, hml, hown, hts, hC, hsz, hn1, hold, hnm⟩ := hM
  unfold oLSh oNx at ho
  split at ho
  · cases ho
    exact fun _ _ K H locs Ls cells slots hR hL hq hc hs => lv_lushr hx hb hd rfl (K H locs Ls cells slots hR hL hq hc hs)
  · cases ho

theorem sim_lcmp {mT : Nat → aM} {M : aM} {pc : Nat} (hd : decode M.2.1 pc = .ok (.lcmp, 1)) : Sim mT M pc (oLcmp (pc + 1)) := by
  intro G E n1 z1 d Q hM hfr hlo ls st S h o ho
  obtain ⟨hx, hb, hml, hown, hts, hC, hsz, hn1, hold, hnm⟩ := hM
  unfold oLcmp oNx at ho
  split at ho
  · cases ho
    exact fun _ _ K H locs Ls cells slots hR hL hq hc hs => W.lcmp hx hb hd (K H locs Ls cells slots hR hL hq hc hs)
  · cases ho

theorem sim_dup {mT : Nat → aM} {M : aM} {pc : Nat} (hd : decode M.2.1 pc = .ok (.dup, 1)) : Sim mT M pc (oDup (pc + 1)) := by
  intro G E n1 z1 d Q hM hfr hlo ls st S h o ho
  obtain ⟨hx, hb, hml, hown, hts, hC, hsz, hn1, hold, hnm⟩ := hM
  unfold oDup oNx at ho
  split at ho
  · obtain ⟨hg, ho⟩ := gd_some ho
    cases ho
    exact fun _ _ K H locs Ls cells slots hR hL hq hc hs => lv_dup hx hb hd (by rw [gv_cat]; exact hg) (K H locs Ls cells slots hR hL hq hc hs)
  · cases ho

theorem sim_dup2 {mT : Nat → aM} {M : aM} {pc : Nat} (hd : decode M.2.1 pc = .ok (.dup2, 1)) : Sim mT M pc (oDup2 (pc + 1)) := by
  intro G E n1 z1 d Q hM hfr hlo ls st S h o ho
  obtain ⟨hx, hb, hml, hown, hts, hC, hsz, hn1, hold, hnm⟩ := hM
  unfold oDup2 oNx at ho
  split at ho
  · obtain ⟨hg, ho⟩ := gd_some ho
    cases ho
    exact fun _ _ K H locs Ls cells slots hR hL hq hc hs => lv_dup2_11 hx hb hd (by rw [gv_cat]; exact hg.1) (by rw [gv_cat]; exact hg.2) (K H locs Ls cells slots hR hL hq hc hs)
  · cases ho

theorem sim_if_eq {mT : Nat → aM} {M : aM} {pc : Nat} {off : Int} {t : Nat} (hd : decode M.2.1 pc = .ok (.ifCond .eq off, 3)) (ht : (pc : Int) + off = (t : Int)) : Sim mT M pc (oIf (fun x => x = 0) t (pc + 3)) := by
  intro G E n1 z1 d Q hM hfr hlo ls st S h o ho
  obtain ⟨hx, hb, hml, hown, hts, hC, hsz, hn1, hold, hnm⟩ := hM
  unfold oIf oNx at ho
  split at ho
  · next x st' =>
    by_cases hp : x = 0
    · rw [br_pos hp] at ho
      cases ho
      exact fun _ _ K H locs Ls cells slots hR hL hq hc hs => lv_if_eq hx hb hd ht (fun _ => K H locs Ls cells slots hR hL hq hc hs) (fun g => absurd hp g)
    · rw [br_neg hp] at ho
      cases ho
      exact fun _ _ K H locs Ls cells slots hR hL hq hc hs => lv_if_eq hx hb hd ht (fun g => absurd g hp) (fun _ => K H locs Ls cells slots hR hL hq hc hs)
  · cases ho

theorem sim_if_lt {mT : Nat → aM} {M : aM} {pc : Nat} {off : Int} {t : Nat} (hd : decode M.2.1 pc = .ok (.ifCond .lt off, 3)) (ht : (pc : Int) + off = (t : Int)) : Sim mT M pc (oIf (fun x => x < 0) t (pc + 3)) := by
  intro G E n1 z1 d Q hM hfr hlo ls st S h o ho
  obtain ⟨hx, hb, hml, hown, hts, hC, hsz, hn1, hold, hnm⟩ := hM
  unfold oIf oNx at ho
  split at ho
  · next x st' =>
    by_cases hp : x < 0
    · rw [br_pos hp] at ho
      cases ho
      exact fun _ _ K H locs Ls cells slots hR hL hq hc hs => lv_if_lt hx hb hd ht (fun _ => K H locs Ls cells slots hR hL hq hc hs) (fun g => absurd hp g)
    · rw [br_neg hp] at ho
      cases ho
      exact fun _ _ K H locs Ls cells slots hR hL hq hc hs => lv_if_lt hx hb hd ht (fun g => absurd g hp) (fun _ => K H locs Ls cells slots hR hL hq hc hs)
  · cases ho

theorem sim_if_ge {mT : Nat → aM} {M : aM} {pc : Nat} {off : Int} {t : Nat} (hd : decode M.2.1 pc = .ok (.ifCond .ge off, 3)) (ht : (pc : Int) + off = (t : Int)) : Sim mT M pc (oIf (fun x => 0 ≤ x) t (pc + 3)) := by
  intro G E n1 z1 d Q hM hfr hlo ls st S h o ho
  obtain ⟨hx, hb, hml, hown, hts, hC, hsz, hn1, hold, hnm⟩ := hM
  unfold oIf oNx at ho
  split at ho
  · next x st' =>
    by_cases hp : 0 ≤ x
    · rw [br_pos hp] at ho
      cases ho
      exact fun _ _ K H locs Ls cells slots hR hL hq hc hs => lv_if_ge hx hb hd ht (fun _ => K H locs Ls cells slots hR hL hq hc hs) (fun g => absurd hp g)
    · rw [br_neg hp] at ho
      cases ho
      exact fun _ _ K H locs Ls cells slots hR hL hq hc hs => lv_if_ge hx hb hd ht (fun g => absurd g hp) (fun _ => K H locs Ls cells slots hR hL hq hc hs)
  · cases ho

theorem sim_if_gt {mT : Nat → aM} {M : aM} {pc : Nat} {off : Int} {t : Nat} (hd : decode M.2.1 pc = .ok (.ifCond .gt off, 3)) (ht : (pc : Int) + off = (t : Int)) : Sim mT M pc (oIf (fun x => 0 < x) t (pc + 3)) := by
  intro G E n1 z1 d Q hM hfr hlo ls st S h o ho
  obtain ⟨hx, hb, hml, hown, hts, hC, hsz, hn1, hold, hnm⟩ := hM
  unfold oIf oNx at ho
  split at ho
  · next x st' =>
    by_cases hp : 0 < x
    · rw [br_pos hp] at ho
      cases ho
      exact fun _ _ K H locs Ls cells slots hR hL hq hc hs => lv_if_gt hx hb hd ht (fun _ => K H locs Ls cells slots hR hL hq hc hs) (fun g => absurd hp g)
    · rw [br_neg hp] at ho
      cases ho
      exact fun _ _ K H locs Ls cells slots hR hL hq hc hs => lv_if_gt hx hb hd ht (fun g => absurd g hp) (fun _ => K H locs Ls cells slots hR hL hq hc hs)
  · cases ho

theorem sim_if_le {mT : Nat → aM} {M : aM} {pc : Nat} {off : Int} {t : Nat} (hd : decode M.2.1 pc = .ok (.ifCond .le off, 3)) (ht : (pc : Int) + off = (t : Int)) : Sim mT M pc (oIf (fun x => x ≤ 0) t (pc + 3)) := by
  intro G E n1 z1 d Q hM hfr hlo ls st S h o ho
  obtain ⟨hx, hb, hml, hown, hts, hC, hsz, hn1, hold, hnm⟩ := hM
  unfold oIf oNx at ho
  split at ho
  · next x st' =>
    by_cases hp : x ≤ 0
    · rw [br_pos hp] at ho
      cases ho
      exact fun _ _ K H locs Ls cells slots hR hL hq hc hs => lv_if_le hx hb hd ht (fun _ => K H locs Ls cells slots hR hL hq hc hs) (fun g => absurd hp g)
    · rw [br_neg hp] at ho
      cases ho
      exact fun _ _ K H locs Ls cells slots hR hL hq hc hs => lv_if_le hx hb hd ht (fun g => absurd g hp) (fun _ => K H locs Ls cells slots hR hL hq hc hs)
  · cases ho

theorem sim_if_ne {mT : Nat → aM} {M : aM} {pc : Nat} {off : Int} {t : Nat} (hd : decode M.2.1 pc = .ok (.ifCond .ne off, 3)) (ht : (pc : Int) + off = (t : Int)) : Sim mT M pc (oIf (fun x => ¬ x = 0) t (pc + 3)) := by
  intro G E n1 z1 d Q hM hfr hlo ls st S h o ho
  obtain ⟨hx, hb, hml, hown, hts, hC, hsz, hn1, hold, hnm⟩ := hM
  unfold oIf oNx at ho
  split at ho
  · next x st' =>
    by_cases hp : ¬ x = 0
    · rw [br_pos hp] at ho
      cases ho
      exact fun _ _ K H locs Ls cells slots hR hL hq hc hs => lv_if_ne hx hb hd ht (fun _ => K H locs Ls cells slots hR hL hq hc hs) (fun g => absurd g hp)
    · rw [br_neg hp] at ho
      cases ho
      exact fun _ _ K H locs Ls cells slots hR hL hq hc hs => lv_if_ne hx hb hd ht (fun g => absurd g hp) (fun _ => K H locs Ls cells slots hR hL hq hc hs)
  · cases ho

theorem sim_icmp_eq {mT : Nat → aM} {M : aM} {pc : Nat} {off : Int} {t : Nat} (hd : decode M.2.1 pc = .ok (.if_icmp .eq off, 3)) (ht : (pc : Int) + off = (t : Int)) : Sim mT M pc (oIc (fun x y => x = y) t (pc + 3)) := by
  intro G E n1 z1 d Q hM hfr hlo ls st S h o ho
  obtain ⟨hx, hb, hml, hown, hts, hC, hsz, hn1, hold, hnm⟩ := hM
  unfold oIc oNx at ho
  split at ho
  · next y x st' =>
    by_cases hp : x = y
    · rw [br_pos hp] at ho
      cases ho
      exact fun _ _ K H locs Ls cells slots hR hL hq hc hs => lv_icmp_eq hx hb hd ht (fun _ => K H locs Ls cells slots hR hL hq hc hs) (fun g => absurd hp g)
    · rw [br_neg hp] at ho
      cases ho
      exact fun _ _ K H locs Ls cells slots hR hL hq hc hs => lv_icmp_eq hx hb hd ht (fun g => absurd g hp) (fun _ => K H locs Ls cells slots hR hL hq hc hs)
  · cases ho

theorem sim_icmp_lt {mT : Nat → aM} {M : aM} {pc : Nat} {off : Int} {t : Nat} (hd : decode M.2.1 pc = .ok (.if_icmp .lt off, 3)) (ht : (pc : Int) + off = (t : Int)) : Sim mT M pc (oIc (fun x y => x < y) t (pc + 3)) := by
  intro G E n1 z1 d Q hM hfr hlo ls st S h o ho
  obtain ⟨hx, hb, hml, hown, hts, hC, hsz, hn1, hold, hnm⟩ := hM
  unfold oIc oNx at ho
  split at ho
  · next y x st' =>
    by_cases hp : x < y
    · rw [br_pos hp] at ho
      cases ho
      exact fun _ _ K H locs Ls cells slots hR hL hq hc hs => lv_icmp_lt hx hb hd ht (fun _ => K H locs Ls cells slots hR hL hq hc hs) (fun g => absurd hp g)
    · rw [br_neg hp] at ho
      cases ho
      exact fun _ _ K H locs Ls cells slots hR hL hq hc hs => lv_icmp_lt hx hb hd ht (fun g => absurd g hp) (fun _ => K H locs Ls cells slots hR hL hq hc hs)
  · cases ho

theorem sim_icmp_ge {mT : Nat → aM} {M : aM} {pc : Nat} {off : Int} {t : Nat} (hd : decode M.2.1 pc = .ok (.if_icmp .ge off, 3)) (ht : (pc : Int) + off = (t : Int)) : Sim mT M pc (oIc (fun x y => y ≤ x) t (pc + 3)) := by
  intro G E n1 z1 d Q hM hfr hlo ls st S h o ho
  obtain ⟨hx, hb, hml, hown, hts, hC, hsz, hn1, hold, hnm⟩ := hM
  unfold oIc oNx at ho
  split at ho
  · next y x st' =>
    by_cases hp : y ≤ x
    · rw [br_pos hp] at ho
      cases ho
      exact fun _ _ K H locs Ls cells slots hR hL hq hc hs => lv_icmp_ge hx hb hd ht (fun _ => K H locs Ls cells slots hR hL hq hc hs) (fun g => absurd hp g)
    · rw [br_neg hp] at ho
      cases ho
      exact fun _ _ K H locs Ls cells slots hR hL hq hc hs => lv_icmp_ge hx hb hd ht (fun g => absurd g hp) (fun _ => K H locs Ls cells slots hR hL hq hc hs)
  · cases ho

theorem sim_icmp_gt {mT : Nat → aM} {M : aM} {pc : Nat} {off : Int} {t : Nat} (hd : decode M.2.1 pc = .ok (.if_icmp .gt off, 3)) (ht : (pc : Int) + off = (t : Int)) : Sim mT M pc (oIc (fun x y => y < x) t (pc + 3)) := by
  intro G E n1 z1 d Q hM hfr hlo ls st S h o ho
  obtain ⟨hx, hb, hml, hown, hts, hC, hsz, hn1, hold, hnm⟩ := hM
  unfold oIc oNx at ho
  split at ho
  · next y x st' =>
    by_cases hp : y < x
    · rw [br_pos hp] at ho
      cases ho
      exact fun _ _ K H locs Ls cells slots hR hL hq hc hs => lv_icmp_gt hx hb hd ht (fun _ => K H locs Ls cells slots hR hL hq hc hs) (fun g => absurd hp g)
    · rw [br_neg hp] at ho
      cases ho
      exact fun _ _ K H locs Ls cells slots hR hL hq hc hs => lv_icmp_gt hx hb hd ht (fun g => absurd g hp) (fun _ => K H locs Ls cells slots hR hL hq hc hs)
  · cases ho

theorem sim_icmp_le {mT : Nat → aM} {M : aM} {pc : Nat} {off : Int} {t : Nat} (hd : decode M.2.1 pc = .ok (.if_icmp .le off, 3)) (ht : (pc : Int) + off = (t : Int)) : Sim mT M pc (oIc (fun x y => x ≤ y) t (pc + 3)) := by
  intro G E n1 z1 d Q hM hfr hlo ls st S h o ho
  obtain ⟨hx, hb, hml, hown, hts, hC, hsz, hn1, hold, hnm⟩ := hM
  unfold oIc oNx at ho
  split at ho
  · next y x st' =>
    by_cases hp : x ≤ y
    · rw [br_pos hp] at ho
      cases ho
      exact fun _ _ K H locs Ls cells slots hR hL hq hc hs => lv_icmp_le hx hb hd ht (fun _ => K H locs Ls cells slots hR hL hq hc hs) (fun g => absurd hp g)
    · rw [br_neg hp] at ho
      cases ho
      exact fun _ _ K H locs Ls cells slots hR hL hq hc hs => lv_icmp_le hx hb hd ht (fun g => absurd g hp) (fun _ => K H locs Ls cells slots hR hL hq hc hs)
  · cases ho

theorem sim_icmp_ne {mT : Nat → aM} {M : aM} {pc : Nat} {off : Int} {t : Nat} (hd : decode M.2.1 pc = .ok (.if_icmp .ne off, 3)) (ht : (pc : Int) + off = (t : Int)) : Sim mT M pc (oIc (fun x y => ¬ x = y) t (pc + 3)) := by
  intro G E n1 z1 d Q hM hfr hlo ls st S h o ho
  obtain ⟨hx, hb, hml, hown, hts, hC, hsz, hn1, hold, hnm⟩ := hM
  unfold oIc oNx at ho
  split at ho
  · next y x st' =>
    by_cases hp : ¬ x = y
    · rw [br_pos hp] at ho
      cases ho
      exact fun _ _ K H locs Ls cells slots hR hL hq hc hs => lv_icmp_ne hx hb hd ht (fun _ => K H locs Ls cells slots hR hL hq hc hs) (fun g => absurd g hp)
    · rw [br_neg hp] at ho
      cases ho
      exact fun _ _ K H locs Ls cells slots hR hL hq hc hs => lv_icmp_ne hx hb hd ht (fun g => absurd g hp) (fun _ => K H locs Ls cells slots hR hL hq hc hs)
  · cases ho

theorem sim_goto {mT : Nat → aM} {M : aM} {pc : Nat} {off : Int} {t : Nat} (hd : decode M.2.1 pc = .ok (.goto off, 3)) (ht : (pc : Int) + off = (t : Int)) : Sim mT M pc (oGo t) := by
  intro G E n1 z1 d Q hM hfr hlo ls st S h o ho
  obtain ⟨hx, hb, hml, hown, hts, hC, hsz, hn1, hold, hnm⟩ := hM
  unfold oGo oNx at ho
  cases ho
  exact fun _ _ K H locs Ls cells slots hR hL hq hc hs => lv_goto hx hb hd ht (K H locs Ls cells slots hR hL hq hc hs)

theorem sim_tsw {mT : Nat → aM} {M : aM} {pc : Nat} {df lo hi : Int} {offs : Array Int} {len : Nat} {ts : List Nat} {t : Nat} (hd : decode M.2.1 pc = .ok (.tableswitch df lo hi offs, len)) (ht : (pc : Int) + df = (t : Int)) (hts9 : ∀ (k : Nat) (q : Nat), ts[k]? = some q → ∃ f, offs[k]? = some f ∧ (pc : Int) + f = (q : Int)) : Sim mT M pc (oSw lo hi ts t) := by
  intro G E n1 z1 d Q hM hfr hlo ls st S h o ho
  obtain ⟨hx, hb, hml, hown, hts, hC, hsz, hn1, hold, hnm⟩ := hM
  unfold oSw oNx at ho
  split at ho
  · next x st' =>
    by_cases hp : x.toInt < lo ∨ hi < x.toInt
    · rw [br_pos hp] at ho
      cases ho
      exact fun _ _ K H locs Ls cells slots hR hL hq hc hs => lv_tableOut hx hb hd hp ht (K H locs Ls cells slots hR hL hq hc hs)
    · rw [br_neg hp] at ho
      split at ho
      · next q hq0 =>
        cases ho
        obtain ⟨f, hf, he⟩ := hts9 _ _ hq0
        exact fun _ _ K H locs Ls cells slots hR hL hq hc hs => lv_tableIn hx hb hd (fun g => hp (Or.inl g)) (fun g => hp (Or.inr g)) hf he (K H locs Ls cells slots hR hL hq hc hs)
      · cases ho
  · cases ho

theorem sim_ireturn {mT : Nat → aM} {M : aM} {pc : Nat} (hd : decode M.2.1 pc = .ok (.ireturn, 1)) (hr : M.2.2.2 = some .int) : Sim mT M pc (oRetI) := by
  intro G E n1 z1 d Q hM hfr hlo ls st S h o ho
  obtain ⟨hx, hb, hml, hown, hts, hC, hsz, hn1, hold, hnm⟩ := hM
  unfold oRetI oRt at ho
  split at ho
  · cases ho
    exact fun K H locs Ls cells slots hR hL hq hc hs => K pc ⟨hd, _, hr, rfl⟩ H locs Ls cells slots hR hq hc hs
  · cases ho

theorem sim_nreturn {mT : Nat → aM} {M : aM} {pc : Nat} {ty : FieldType} (hd : decode M.2.1 pc = .ok (.ireturn, 1)) (hr : M.2.2.2 = some ty) (hn : ∀ x : Int32, vp_nar ty x = x → narrow ty (.int x) = .int x) : Sim mT M pc (oRetN ty) := by
  intro G E n1 z1 d Q hM hfr hlo ls st S h o ho
  obtain ⟨hx, hb, hml, hown, hts, hC, hsz, hn1, hold, hnm⟩ := hM
  unfold oRetN oRt at ho
  split at ho
  · obtain ⟨hg, ho⟩ := gd_some ho
    cases ho
    exact fun K H locs Ls cells slots hR hL hq hc hs => K pc ⟨hd, _, hr, hn _ hg⟩ H locs Ls cells slots hR hq hc hs
  · cases ho

theorem sim_lreturn {mT : Nat → aM} {M : aM} {pc : Nat} (hd : decode M.2.1 pc = .ok (.lreturn, 1)) (hr : M.2.2.2 = some .long) : Sim mT M pc (oRetL) := by
  intro G E n1 z1 d Q hM hfr hlo ls st S h o ho
  obtain ⟨hx, hb, hml, hown, hts, hC, hsz, hn1, hold, hnm⟩ := hM
  unfold oRetL oRt at ho
  split at ho
  · cases ho
    exact fun K H locs Ls cells slots hR hL hq hc hs => K pc ⟨hd, hr⟩ H locs Ls cells slots hR hq hc hs
  · cases ho

theorem sim_return {mT : Nat → aM} {M : aM} {pc : Nat} (hd : decode M.2.1 pc = .ok (.return_, 1)) (hr : M.2.2.2 = none) : Sim mT M pc (oRetV) := by
  intro G E n1 z1 d Q hM hfr hlo ls st S h o ho
  obtain ⟨hx, hb, hml, hown, hts, hC, hsz, hn1, hold, hnm⟩ := hM
  unfold oRetV oRt at ho
  split at ho
  · cases ho
    exact fun K H locs Ls cells slots hR hL hq hc hs => K pc ⟨hd, hr⟩ H locs Ls cells slots hR hq hc hs
  · cases ho

theorem sim_pop {mT : Nat → aM} {M : aM} {pc : Nat} (hd : decode M.2.1 pc = .ok (.pop, 1)) : Sim mT M pc (oPop (pc + 1)) := by
  intro G E n1 z1 d Q hM hfr hlo ls st S h o ho
  obtain ⟨hx, hb, hml, hown, hts, hC, hsz, hn1, hold, hnm⟩ := hM
  unfold oPop oNx at ho
  split at ho
  · obtain ⟨hg, ho⟩ := gd_some ho
    cases ho
    exact fun _ _ K H locs Ls cells slots hR hL hq hc hs => lv_pop hx hb hd (by rw [gv_cat]; exact hg) (K H locs Ls cells slots hR hL hq hc hs)
  · cases ho
