/-! calls -/
/-- what the tables say of a method that may be called -/
def MOk (y : aM) (np : Nat) : Prop := Cond.code y.1 y.2.1 y.2.2.1 y.2.2.2 ∈ tg ∧ Cond.initialized y.1.cls ∈ tg ∧ (y.1.cls ≠ "java/lang/invoke/MethodHandle" ∧ y.1.cls ≠ "java/lang/invoke/VarHandle") ∧ (parseMethodDescriptor y.1.desc).map (fun d => d.parameters.length) = some np ∧ y.2.2.1 ≤ 40
theorem goodY {y : aM} {np : Nat} (h : MOk y np) : GoodIn tg (wsY y) := by
  intro w hw
  rcases List.mem_cons.mp hw with rfl | hw
  · exact ⟨h.1, Or.inl rfl⟩
  · exact ⟨hw, tg_good w hw⟩
theorem cPre_blind (G : aG) (as : List Value) (S : aS) (h : aH) : FrameBlind (cPre G as S h) := by
  intro a U g mk q
  obtain ⟨q1, q2, q3, q4⟩ := q
  exact ⟨q1, q2, gC.same (U := U.calling g mk a) (u := U) rfl q3, q4⟩
theorem cPre_at {G : aG} {E : aEv} {M : aM} {n1 : Nat} {as : List Value} {S : aS} {h : aH} {H : Heap} (hM : MC G E M n1) (hR : gR G S h H) (hz : H.size = gad G S.length) {As : Array Value} (hA : As = (as.map (gv G)).toArray) : ∀ U : State, U.heap = H → (eS E).WarmedH U.vm → cPre G as S h As U := by
  intro U hU hW
  refine ⟨hA, by rw [hU]; exact hR, hM.2.2.2.2.2.1.warm hW, ?_⟩
  rw [hU, hz, gad_new hR.len]
  have := hR.len
  omega
/-- behind a call -/
theorem callG {G : aG} {E : aEv} {M : aM} {n1 z1 : Nat} {S : aS} {r : aR} {H : Heap} {locs : List Loc} {Ls : Array Slot} {cells slots pc : Nat} {Q : State → Prop} {st0 : List Value} {ls st' : List Value} {a : Array Value} (hq : ∀ q ∈ locs, gA G q.base) (hL : gLs G ls Ls M.2.2.1)
    (hr : va_Run E.1 E.2.1 E.2.2.1 E.2.2.2.1 E.2.2.2.2.1 E.2.2.2.2.2.1 E.2.2.2.2.2.2.1 E.2.2.2.2.2.2.2.1 E.2.2.2.2.2.2.2.2.1 E.2.2.2.2.2.2.2.2.2 H locs cells slots (r.2.1.length - S.length) (slc r.2.1 - slc S) (F0 (eM E) pc Ls st0) (st'.map (gv G)) (cPost G r a) (gA G))
    (hc : n1 + cells = S.length) (hs : z1 + slots = slc S) (h1 : S.length ≤ r.2.1.length) (h2 : slc S ≤ slc r.2.1) (K : AW G E M n1 z1 Q (pc + 3) ls (r.1.toList ++ st') r.2.1 r.2.2) : eW E H locs cells slots Q (F0 (eM E) pc Ls st0) := by
  intro T hT X
  obtain ⟨v, st₀, t, T', L, h0, X', hLf, e1, e2, ⟨ho, hR'⟩, st⟩ := hr T hT X
  have hv : v = r.1.map (gv G) := by cases ho; rfl
  have K := K T'.heap (locs ++ L) Ls (cells + (r.2.1.length - S.length)) (slots + (slc r.2.1 - slc S)) (by rw [e1]; exact hR') hL (fun q hq' => by
    rcases List.mem_append.mp hq' with g | g
    · exact hq q g
    · exact hLf q g) (by omega) (by omega)
  obtain ⟨t2, a1, b1⟩ := K T' rfl X'
  refine ⟨t2, st t2 ?_, b1⟩
  have e3 : v.toList ++ st'.map (gv G) = (r.1.toList ++ st').map (gv G) := by
    rw [hv, List.map_append]
    cases r.1 <;> rfl
  rw [e3]
  exact a1
theorem rmD_ok {E : aEv} {y : aM} {np d d' : Nat} (hy : MOk y np) (hfr : d ≤ (eR E).frames) (hlo : 64 * d ≤ (eR E).locals) (hd : d = d' + 1) (mc ms : Nat) : (rmD d' mc ms).frames + 1 ≤ (eR E).frames ∧ 8 + (y.2.2.1 + 11) + (rmD d' mc ms).locals ≤ (eR E).locals := by
  have := hy.2.2.2.2
  unfold rmD
  simp only
  omega
theorem take_rev {G : aG} (st : List Value) (a : Nat) : st.map (gv G) = (((st.take a).reverse).map (gv G)).reverse ++ (st.drop a).map (gv G) := by
  rw [← List.map_reverse, List.reverse_reverse, ← List.map_append, List.take_append_drop]
theorem sim_static {mT : Nat → aM} {M : aM} {pc index y np : Nat} (hd : decode M.2.1 pc = .ok (.invokestatic index, 3)) (hl : Cond.methodLink M.1.cls index (mT y).1 ∈ tg ∨ ∃ host, Cond.methodLinkNest M.1.cls index (mT y).1 host ∈ tb) (hst : Cond.static (mT y).1 ∈ tg) (hy : MOk (mT y) np) : Sim mT M pc (oCall y np (pc + 3)) := by
  intro G E n1 z1 d Q hM hfr hlo ls st S h o ho
  unfold oCall oCl at ho
  obtain ⟨⟨hg1, hg2⟩, ho⟩ := gd_some ho
  cases ho
  intro r ⟨d', hdd, hCt⟩ h1 h2 hr1 hr2 K H locs Ls cells slots hR hL hq hc hs
  refine W_size hM hR hc (fun hz => ?_)
  have hM0 := hM
  obtain ⟨hx, hb, hml, hown, hts, hC, hsz, hn1, hold, hnm⟩ := hM
  have hsum : (((st.drop np).map (gv G)).map fun v => v.category).sum ≤ 8 := by rw [gv_sum]; exact hg2
  have hlen : (((st.take np).reverse).map (gv G)).length = np := by simp; omega
  have hf : cells + (r.2.1.length - S.length) ≤ (eR E).cells ∧ slots + (slc r.2.1 - slc S) ≤ (eR E).slots := ⟨by omega, by omega⟩
  have hp : PreS (eS E) H (cPre G (st.take np).reverse S h) (((st.take np).reverse).map (gv G)) := ⟨cPre_blind _ _ _ _, cPre_at hM0 hR hz rfl⟩
  rcases hl with hl | ⟨host, hl⟩
  · exact callG hq hL (va_runS (Ts := tg) ⟨hx, hb, hml, hown, hts⟩ hCt ⟨callB_of np hts (goodY hy) rfl rfl rfl (hts _ hy.2.1) (hts _ hl) ⟨hy.2.2.1.1, hy.2.2.1.2, hy.2.2.2.1⟩ (rmD_ok hy hfr hlo hdd _ _), hts _ hst⟩ hp rfl hlen hL.2.1 (take_rev st np) (lv_room hsum) hd hf) hc hs h1 h2 K
  · exact callG hq hL (va_runSN (Ts := tg) ⟨hx, hb, hml, hown, hts⟩ hCt ⟨va_cnB np hts (goodY hy) rfl rfl rfl (hC.2.2.2.2.2.2.2.1 _ hl rfl) (hts _ hy.2.1) ⟨hy.2.2.1.1, hy.2.2.1.2, hy.2.2.2.1⟩ (rmD_ok hy hfr hlo hdd _ _), hts _ hst, trivial⟩ hp rfl hlen hL.2.1 (take_rev st np) (lv_room hsum) hd hf) hc hs h1 h2 K
/-- a constructor; its receiver is the first of the arguments -/
theorem sim_special {mT : Nat → aM} {M : aM} {pc index y : Nat} (hd : decode M.2.1 pc = .ok (.invokespecial index, 3)) (hl : Cond.methodLink M.1.cls index (mT y).1 ∈ tg ∨ ∃ host, Cond.methodLinkNest M.1.cls index (mT y).1 host ∈ tb) (hin : Cond.instanceMethod (mT y).1 ∈ tg) (hnm1 : (mT y).1.name = "<init>") (hrt : (mT y).2.2.2 = none) (hy : MOk (mT y) 0) : Sim mT M pc (oCalV (fun ci => if ci < 100 then some y else none) 0 (pc + 3)) := by
  intro G E n1 z1 d Q hM hfr hlo ls st S h o ho
  unfold oCalV oCl at ho
  split at ho
  · next c hst0 =>
    split at ho
    · next y' hy' =>
      obtain ⟨hg2, ho⟩ := gd_some ho
      dsimp only at hy'
      by_cases hk : aK S c < 100
      · rw [if_pos hk] at hy'
        cases hy'
        cases ho
        intro r ⟨d', hdd, hCt⟩ h1 h2 hr1 hr2 K H locs Ls cells slots hR hL hq hc hs
        refine W_size hM hR hc (fun hz => ?_)
        have hM0 := hM
        obtain ⟨hx, hb, hml, hown, hts, hC, hsz, hn1, hold, hnm⟩ := hM
        have hst : st = .ref c :: st.drop 1 := by
          cases st with
          | nil => cases hst0
          | cons w st' => cases hst0; rfl
        have hsum : (((st.drop (0 + 1)).map (gv G)).map fun v => v.category).sum ≤ 8 := by rw [gv_sum]; exact hg2
        have hf : cells + (r.2.1.length - S.length) ≤ (eR E).cells ∧ slots + (slc r.2.1 - slc S) ≤ (eR E).slots := ⟨by omega, by omega⟩
        have hp : PreS (eS E) H (cPre G (.ref c :: (st.take 0).reverse) S h) (.ref (gad G c) :: []) := ⟨cPre_blind _ _ _ _, cPre_at hM0 hR hz rfl⟩
        have hsk : (F0 (eM E) pc Ls (st.map (gv G))).stack = ([] : List Value).reverse ++ .ref (gad G c) :: (st.drop (0 + 1)).map (gv G) := by
          show st.map (gv G) = _
          conv => lhs; rw [hst]
          rfl
        unfold Ct at hCt
        have hcd : wsY (mT y) = Cond.code (mT y).1 (mT y).2.1 (mT y).2.2.1 none :: tg := by unfold wsY; rw [hrt]
        rcases hl with hl | ⟨host, hl⟩
        · exact callG hq hL (va_runI (Ts := tg) (As := []) ⟨hx, hb, hml, hown, hts⟩ hCt ⟨callB_of 0 hts (goodY hy) hcd rfl rfl (hts _ hy.2.1) (hts _ hl) ⟨hy.2.2.1.1, hy.2.2.1.2, hy.2.2.2.1⟩ (rmD_ok hy hfr hlo hdd _ _), hnm1, hts _ hin⟩ hp rfl rfl hL.2.1 hsk (lv_room hsum) hd hf) hc hs h1 h2 K
        · exact callG hq hL (va_runIN (Ts := tg) (As := []) ⟨hx, hb, hml, hown, hts⟩ hCt ⟨va_cnB 0 hts (goodY hy) hcd rfl rfl (hC.2.2.2.2.2.2.2.1 _ hl rfl) (hts _ hy.2.1) ⟨hy.2.2.1.1, hy.2.2.1.2, hy.2.2.2.1⟩ (rmD_ok hy hfr hlo hdd _ _), hnm1, hts _ hin⟩ hp rfl rfl hL.2.1 hsk (lv_room hsum) hd hf) hc hs h1 h2 K
      · rw [if_neg hk] at hy'; cases hy'
    · cases ho
  · cases ho
theorem split_at {st : List Value} {a c : Nat} (h : st[a]? = some (.ref c)) (G : aG) : st.map (gv G) = (((st.take a).reverse).map (gv G)).reverse ++ .ref (gad G c) :: (st.drop (a + 1)).map (gv G) := by
  have hl := (List.getElem?_eq_some_iff.mp h).1
  have he := (List.getElem?_eq_some_iff.mp h).2
  rw [take_rev st a, List.drop_eq_getElem_cons hl, he]
  rfl
/-- which method a call by the receiver's class comes to -/
def VOk (mT : Nat → aM) (own : String) (index : Nat) (C : String) (y np : Nat) : Prop :=
  MOk (mT y) np ∧ Cond.instanceMethod (mT y).1 ∈ tg ∧ (((mT y).1.cls = C ∧ Cond.methodLink own index (mT y).1 ∈ tg ∧ Cond.selects C (mT y).1 (mT y).1 ∈ tg) ∨
    ∃ (x : MethodName) (owner : String), (owner ≠ "java/lang/invoke/MethodHandle" ∧ owner ≠ "java/lang/invoke/VarHandle") ∧ (parseMethodDescriptor x.desc).map (fun d => d.parameters.length) = some np ∧ Cond.methodLink own index x ∈ tg ∧ Cond.sameMethod x.cls owner x.name x.desc ∈ tg ∧ (Cond.declares ⟨owner, x.name, x.desc⟩ ∈ tb ∨ (mT y).1 = ⟨owner, x.name, x.desc⟩) ∧ Cond.selects C x (mT y).1 ∈ tg)
theorem virt_row {mT : Nat → aM} {G : aG} {E : aEv} {M : aM} {n1 z1 d d' pc index y np c : Nat} {C : String} {S : aS} {h : aH} {r : aR} {H : Heap} {locs : List Loc} {Ls : Array Slot} {cells slots : Nat} {Q : State → Prop} {ls st : List Value} (hM : MC G E M n1) (hfr : d ≤ (eR E).frames) (hlo : 64 * d ≤ (eR E).locals) (hd : decode M.2.1 pc = .ok (.invokevirtual index, 3)) (hv : VOk mT M.1.cls index C y np) (hdd : d = d' + 1)
    (hCt : Ct G E.2.1 (mT y) d' (.ref c :: (st.take np).reverse) S h r) (hst : st[np]? = some (.ref c)) (hg2 : ((st.drop (np + 1)).map fun v => v.category).sum ≤ 8) (h1 : S.length ≤ r.2.1.length) (h2 : slc S ≤ slc r.2.1) (hr1 : r.2.1.length ≤ n1 + (eR E).cells) (hr2 : slc r.2.1 ≤ z1 + (eR E).slots) (K : AW G E M n1 z1 Q (pc + 3) ls (r.1.toList ++ st.drop (np + 1)) r.2.1 r.2.2)
    (hR : gR G S h H) (hL : gLs G ls Ls M.2.2.1) (hq : ∀ q ∈ locs, gA G q.base) (hc : n1 + cells = S.length) (hs : z1 + slots = slc S) (hrec : ∃ cellB : Cell, H[gad G c]? = some cellB ∧ cellB.vm.isStatics = false ∧ (eS E).vm.findClass C = some cellB.cls) : eW E H locs cells slots Q (F0 (eM E) pc Ls (st.map (gv G))) := by
  refine W_size hM hR hc (fun hz => ?_)
  have hM0 := hM
  obtain ⟨hx, hb, hml, hown, hts, hC, hsz, hn1, hold, hnm⟩ := hM
  obtain ⟨hy, hin, hv⟩ := hv
  have hsum : (((st.drop (np + 1)).map (gv G)).map fun v => v.category).sum ≤ 8 := by rw [gv_sum]; exact hg2
  have hln := (List.getElem?_eq_some_iff.mp hst).1
  have hlen : (((st.take np).reverse).map (gv G)).length = np := by simp; omega
  have hf : cells + (r.2.1.length - S.length) ≤ (eR E).cells ∧ slots + (slc r.2.1 - slc S) ≤ (eR E).slots := ⟨by omega, by omega⟩
  have hp : PreV (eS E) H C (gad G c) (cPre G (.ref c :: (st.take np).reverse) S h) (((st.take np).reverse).map (gv G)) := ⟨cPre_blind _ _ _ _, hrec, cPre_at hM0 hR hz rfl⟩
  have hd0 : (mT y).1.cls ≠ "java/lang/invoke/MethodHandle" ∧ (mT y).1.cls ≠ "java/lang/invoke/VarHandle" ∧ (parseMethodDescriptor (mT y).1.desc).map (fun d => d.parameters.length) = some np := ⟨hy.2.2.1.1, hy.2.2.1.2, hy.2.2.2.1⟩
  have hcode : Cond.code (mT y).1 (mT y).2.1 (mT y).2.2.1 (mT y).2.2.2 ∈ wsY (mT y) := List.mem_cons_self
  rcases hv with ⟨hcls, hl, hsl⟩ | ⟨x, owner, how, hxd, hl, hsm, hdc, hsl⟩
  · exact callG hq hL (va_runV (Ts := tg) ⟨hx, hb, hml, hown, hts⟩ hCt ⟨callB_of np hts (goodY hy) rfl rfl rfl (hts _ hy.2.1) (hts _ hl) hd0 (rmD_ok hy hfr hlo hdd _ _), hts _ hin, hts _ hsl⟩ hp rfl hlen hL.2.1 (split_at hst G) (lv_room hsum) hd hf) hc hs h1 h2 K
  · have hdecl : va_Decl (eS E) ⟨owner, x.name, x.desc⟩ := by
      rcases hdc with g | g
      · exact va_Decl.abs (hC.2.2.2.2.2.2.2.1 _ g rfl)
      · rw [← g]; exact va_Decl.of (hts _ hin) (hts _ hy.1)
    have hn9 : ∀ sig, parseMethodDescriptor x.desc = some sig → np = sig.parameters.length := by
      intro sig hsig
      rw [hsig] at hxd
      exact (Option.some.inj hxd).symm
    have hrm := rmD_ok hy hfr hlo hdd (r.2.1.length - S.length) (slc r.2.1 - slc S)
    exact callG hq hL (va_runU (Ts := tg) (x := x) (owner := owner) ⟨hx, hb, hml, hown, hts⟩ hCt ⟨⟨rfl, rfl, hrm.1, hrm.2, pay_in hts (goodY hy), hcode⟩, hts _ hy.1, hts _ hy.2.1, how, hn9, hts _ hl, hts _ hsm, hdecl, hts _ hsl, hts _ hin⟩ hp rfl hlen hL.2.1 (split_at hst G) (lv_room hsum) hd hf) hc hs h1 h2 K
theorem sim_virtual {mT : Nat → aM} {M : aM} {pc index np : Nat} {f : Nat → Option Nat} (hd : decode M.2.1 pc = .ok (.invokevirtual index, 3)) (hv : ∀ ci y, f ci = some y → (∃ C T N, ClsOk ci C T N ∧ VOk mT M.1.cls index C y np) ∨ (ci = 201 ∧ VOk mT M.1.cls index "java/lang/String" y np)) : Sim mT M pc (oCalV f np (pc + 3)) := by
  intro G E n1 z1 d Q hM hfr hlo ls st S h o ho
  unfold oCalV oCl at ho
  split at ho
  · next c hst0 =>
    split at ho
    · next y hy' =>
      obtain ⟨hg2, ho⟩ := gd_some ho
      cases ho
      intro r ⟨d', hdd, hCt⟩ h1 h2 hr1 hr2 K H locs Ls cells slots hR hL hq hc hs
      rcases hv _ _ hy' with ⟨C, T, N, hok, hv⟩ | ⟨hk, hv⟩
      · obtain ⟨h8, hcc, hN, hat⟩ := obj_at hR hok
        exact virt_row hM hfr hlo hd hv hdd hCt hst0 hg2 h1 h2 hr1 hr2 K hR hL hq hc hs (va_recv hM.2.2.2.2.2.1.1 hR.1 hok.1 hat)
      · obtain ⟨i0, hi0, rfl⟩ := old_str hR hk
        have hC := hM.2.2.2.2.2.1
        have hrec : ∃ cellB : Cell, H[gad G (2 + i0)]? = some cellB ∧ cellB.vm.isStatics = false ∧ (eS E).vm.findClass "java/lang/String" = some cellB.cls := by
          obtain ⟨cell, g1, g2, g3, -⟩ := ((hC.2.2.2.2.1.1 i0 hi0).1.kept (kept0 hM)).kept (vaSs hM hR hq hc).2.1
          exact ⟨cell, g1, g2, g3⟩
        exact virt_row hM hfr hlo hd hv hdd hCt hst0 hg2 h1 h2 hr1 hr2 K hR hL hq hc hs hrec
    · cases ho
  · cases ho
/-! THE MACHINE DOES WHAT THE ABSTRACT ONE DOES -/
def Grow (op : aP) : Prop := ∀ d ls st S h o, op d ls st S h = some o → match o with
  | .inl (_, _, _, S', _) => S.length ≤ S'.length ∧ slc S ≤ slc S'
  | .inr (.inl (_, S', _)) => S.length ≤ S'.length ∧ slc S ≤ slc S'
  | .inr (.inr (_, _, _, _, _, S', _)) => S.length ≤ S'.length ∧ slc S ≤ slc S'
theorem run_grow {pg : Nat → Nat → Option aP} {mx : Nat → Nat} (hg : ∀ m pc op, pg m pc = some op → Grow op) : ∀ (k d m pc : Nat) (ls st : List Value) (S : aS) (h : aH) (r : aR), runG pg mx k d m pc ls st S h = some r → S.length ≤ r.2.1.length ∧ slc S ≤ slc r.2.1 := by
  intro k
  induction k with
  | zero => intro d m pc ls st S h r hr; simp [runG] at hr
  | succ k ih =>
    intro d m pc ls st S h r hr
    rw [runG] at hr
    cases hp : pg m pc with
    | none => rw [hp] at hr; cases hr
    | some op =>
      rw [hp] at hr
      dsimp only at hr
      cases ho : op d ls st S h with
      | none => rw [ho] at hr; cases hr
      | some o =>
        rw [ho] at hr
        have g := hg m pc op hp d ls st S h o ho
        match o, hr, g with
        | .inl (n, ls', st', S', h'), hr, g =>
          have := ih _ _ _ _ _ _ _ _ hr
          dsimp only at g
          omega
        | .inr (.inl (v, S', h')), hr, g => cases hr; exact g
        | .inr (.inr (y, as, n, ls', st', S', h')), hr, g =>
          cases d with
          | zero => cases hr
          | succ d' =>
            dsimp only at hr g
            by_cases hw : wds as ≤ mx y
            · rw [gd_pos hw] at hr
              cases hc : runG pg mx k d' y 0 (entL (mx y) as) [] S' h' with
              | none => rw [hc] at hr; cases hr
              | some q =>
                rw [hc] at hr
                obtain ⟨v, S2, h2⟩ := q
                have g1 := ih _ _ _ _ _ _ _ _ hc
                have g2 := ih _ _ _ _ _ _ _ _ hr
                dsimp only at g1
                omega
            · rw [gd_neg hw] at hr; cases hr
theorem sound_body {pg : Nat → Nat → Option aP} {mT : Nat → aM} (hS : ∀ m pc op, pg m pc = some op → Sim mT (mT m) pc op) (hg : ∀ m pc op, pg m pc = some op → Grow op) {G : aG} {E : aEv} {n1 z1 : Nat} {Q : State → Prop} (k : Nat)
    (ihc : ∀ (k' : Nat), k' < k → ∀ (d y : Nat) (as : List Value) (S : aS) (h : aH) (r : aR), wds as ≤ (mT y).2.2.1 → runG pg (fun m => (mT m).2.2.1) k' d y 0 (entL (mT y).2.2.1 as) [] S h = some r → Ct G E.2.1 (mT y) d as S h r) :
    ∀ (d m pc : Nat), MC G E (mT m) n1 → d ≤ (eR E).frames → 64 * d ≤ (eR E).locals → ∀ (ls st : List Value) (S : aS) (h : aH) (r : aR), runG pg (fun m => (mT m).2.2.1) k d m pc ls st S h = some r → r.2.1.length ≤ n1 + (eR E).cells → slc r.2.1 ≤ z1 + (eR E).slots → RW G E (mT m) n1 z1 Q r.1 r.2.1 r.2.2 → AW G E (mT m) n1 z1 Q pc ls st S h := by
  induction k with
  | zero => intro d m pc _ _ _ ls st S h r hr; simp [runG] at hr
  | succ k ih =>
    intro d m pc hM hfr hlo ls st S h r hr hc1 hc2 hret
    have hr0 := hr
    rw [runG] at hr
    cases hp : pg m pc with
    | none => rw [hp] at hr; cases hr
    | some op =>
      rw [hp] at hr
      dsimp only at hr
      have sm := hS m pc op hp G E n1 z1 d Q hM hfr hlo ls st S h
      cases ho : op d ls st S h with
      | none => rw [ho] at hr; cases hr
      | some o =>
        rw [ho] at hr
        have sm := sm o ho
        match o, hr, sm with
        | .inl (n, ls', st', S', h'), hr, sm =>
          have g := run_grow hg _ _ _ _ _ _ _ _ _ hr
          exact sm (by omega) (by omega) (ih (fun k' hk' => ihc k' (by omega)) d m n hM hfr hlo ls' st' S' h' r hr hc1 hc2 hret)
        | .inr (.inl (v, S', h')), hr, sm => cases hr; exact sm hret
        | .inr (.inr (y, as, n, ls', st', S', h')), hr, sm =>
          cases d with
          | zero => cases hr
          | succ d' =>
            dsimp only at hr
            by_cases hw : wds as ≤ (mT y).2.2.1
            rotate_left
            · rw [gd_neg hw] at hr; cases hr
            rw [gd_pos hw] at hr
            cases hc : runG pg (fun m => (mT m).2.2.1) k d' y 0 (entL (mT y).2.2.1 as) [] S' h' with
            | none => rw [hc] at hr; cases hr
            | some q =>
              rw [hc] at hr
              obtain ⟨v, S2, h2⟩ := q
              have g1 := run_grow hg _ _ _ _ _ _ _ _ _ hc
              have g2 := run_grow hg _ _ _ _ _ _ _ _ _ hr
              dsimp only at g1 hr
              exact sm (v, S2, h2) ⟨d', rfl, ihc k (by omega) d' y as S' h' (v, S2, h2) hw hc⟩ g1.1 g1.2 (by dsimp only; omega) (by dsimp only; omega) (ih (fun k' hk' => ihc k' (by omega)) (d' + 1) m n hM hfr hlo ls' (v.toList ++ st') S2 h2 r hr hc1 hc2 hret)
/-- the locals at a method's entry -/
theorem ent_locals {G : aG} {mx : Nat} (as : List Value) (hl : (lg_sl (as.map (gv G))).length ≤ mx) : gLs G (entL mx as) ((lg_sl (as.map (gv G)) ++ List.replicate (mx - (lg_sl (as.map (gv G))).length) Slot.unset).toArray) mx := by
  have hw := lv_entry (as.map (gv G)) hl
  have hlen : ∀ l : List Value, (l.flatMap fun v => if v.category = 2 then [v, Value.null] else [v]).length = (lg_sl (l.map (gv G))).length := by
    intro l
    induction l with
    | nil => rfl
    | cons v l ih =>
      unfold lg_sl at ih ⊢
      simp only [List.flatMap_cons, List.map_cons, List.length_append, ih, gv_cat]
      by_cases h : v.category = 2 <;> simp [h]
  have hel : ∀ (l : List Value) (i : Nat) (v : Value), (l.flatMap fun v => if v.category = 2 then [v, Value.null] else [v])[i]? = some v → v ≠ .null → (lg_sl (l.map (gv G)))[i]? = some (.val (gv G v)) := by
    intro l
    induction l with
    | nil => intro i v h; simp at h
    | cons w l ih =>
      intro i v h hn
      unfold lg_sl at ih ⊢
      simp only [List.flatMap_cons, List.map_cons, gv_cat] at h ⊢
      by_cases hw : w.category = 2
      · simp only [hw, if_true] at h ⊢
        match i, h with
        | 0, h => cases h; rfl
        | 1, h => exact absurd (Option.some.inj h).symm hn
        | i + 2, h => exact ih i v h hn
      · simp only [hw, if_false] at h ⊢
        match i, h with
        | 0, h => cases h; rfl
        | i + 1, h => exact ih i v h hn
  refine ⟨?_, hw.1, hw.2.1, fun i v hi hn => ?_⟩
  · unfold entL
    rw [List.length_append, List.length_replicate, hlen as]
    omega
  · unfold entL at hi
    rw [List.getElem?_toArray]
    by_cases hlt : i < (lg_sl (as.map (gv G))).length
    · rw [List.getElem?_append_left (by rw [hlen]; exact hlt)] at hi
      rw [List.getElem?_append_left hlt]
      exact hel as i v hi hn
    · rw [List.getElem?_append_right (by rw [hlen]; omega), List.getElem?_replicate] at hi
      split at hi
      · exact absurd (Option.some.inj hi).symm hn
      · cases hi
theorem lg_len {G : aG} (l : List Value) : (lg_sl (l.map (gv G))).length = wds l := by
  induction l with
  | nil => rfl
  | cons v l ih =>
    unfold lg_sl at ih ⊢
    unfold wds at ih ⊢
    simp only [List.flatMap_cons, List.map_cons, List.length_append, List.sum_cons, ih, gv_cat]
    congr 1
    rcases lv_cat v with h | h <;> simp [h]
/-- a method's return, as its contract has it -/
theorem ret_ok {G : aG} {E : aEv} {M : aM} {n1 z1 : Nat} {below : List Frame} {r : aR} (hbl : E.2.2.2.2.2.2.2.1 = below) (hx : E.1.tables.exec = Jvm.exec) (hb : (eC E).code = M.2.1) (hr : (eMt E).sig.returnType = M.2.2.2) (hlocks : (eMt E).locks = false) :
    RW G E M n1 z1 (MQ below (cPost G r) (eA E) (eS E) (r.2.1.length - n1) (slc r.2.1 - z1) (gA G)) r.1 r.2.1 r.2.2 := by
  intro pc hRet H locs Ls cells slots hR hq hc hs
  subst hbl
  rw [show r.2.1.length - n1 = cells by omega, show slc r.2.1 - z1 = slots by omega]
  obtain ⟨v, S, h⟩ := r
  dsimp only at hR hc hs hRet ⊢
  unfold RetAt at hRet
  match v, hRet with
  | none, ⟨hd, hrt⟩ => exact W.vret hx hb (hr.trans hrt) (fun t ht hW => ⟨rfl, by rw [ht]; exact hR⟩) hq hd hlocks
  | some (.int x), ⟨hd, ty, hrt, hn⟩ => exact W.zret hx hb (hr.trans hrt) hn (fun t ht hW => ⟨rfl, by rw [ht]; exact hR⟩) hq hd hlocks
  | some (.long x), ⟨hd, hrt⟩ => exact W.lret hx hb (hr.trans hrt) (fun t ht hW => ⟨rfl, by rw [ht]; exact hR⟩) hq hd hlocks
theorem sound_ct {pg : Nat → Nat → Option aP} {mT : Nat → aM} (hS : ∀ m pc op, pg m pc = some op → Sim mT (mT m) pc op) (hg : ∀ m pc op, pg m pc = some op → Grow op) (hn : ∀ m pc op, pg m pc = some op → plainName (mT m).1.cls = true) (G : aG) (l : Launch) :
    ∀ (k d y : Nat) (as : List Value) (S : aS) (h : aH) (r : aR), wds as ≤ (mT y).2.2.1 → runG pg (fun m => (mT m).2.2.1) k d y 0 (entL (mT y).2.2.1 as) [] S h = some r → Ct G l (mT y) d as S h r := by
  intro k
  induction k using Nat.strongRecOn with
  | _ k ih =>
    intro d y as S h r hw hr
    have hp : ∃ op, pg y 0 = some op := by
      cases k with
      | zero => simp [runG] at hr
      | succ k =>
        rw [runG] at hr
        cases hp : pg y 0 with
        | none => rw [hp] at hr; cases hr
        | some op => exact ⟨op, rfl⟩
    obtain ⟨op, hp⟩ := hp
    have gr := run_grow hg _ _ _ _ _ _ _ _ _ hr
    refine Met.ofW (cc := (mT y).2.1) (maxL := (mT y).2.2.1) (ret := (mT y).2.2.2) (hn y 0 op hp) rfl ?_
    intro p e s m args below meth c s₁ B hml hv
    obtain ⟨rfl, hR, hC, hsz⟩ := hv
    have hts : ∀ w ∈ tg, w.before ((as.map (gv G)).toArray) s = true := fun w hw => atoms_spec (ws := wsY (mT y)) B.pre w (List.mem_cons_of_mem _ hw)
    have h8 := hR.len
    have hMC : MC G (p, l, e, rmD d (r.2.1.length - S.length) (slc r.2.1 - slc S), s, m, (as.map (gv G)).toArray, below, meth, c) (mT y) S.length := by
      refine ⟨B.exec, B.bytes, hml, findClass_of_methodNamed B.named, hts, hC, hsz, h8, hR.2.2.2.1, ?_⟩
      exact fun hi => (name_of_methodNamed B.named B.method).1.trans hi
    have hRW := ret_ok (G := G) (E := (p, l, e, rmD d (r.2.1.length - S.length) (slc r.2.1 - slc S), s, m, (as.map (gv G)).toArray, below, meth, c)) (M := mT y) (n1 := S.length) (z1 := slc S) (r := r) rfl B.exec B.bytes B.returns B.notSynchronized
    have key := sound_body (z1 := slc S) hS hg k (fun k' hk' => ih k' hk') d y 0 hMC (Nat.le_refl _) (Nat.le_refl _) (entL (mT y).2.2.1 as) [] S h r hr (by show _ ≤ S.length + (r.2.1.length - S.length); omega) (by show _ ≤ slc S + (slc r.2.1 - slc S); omega) hRW
    rw [lg_entry_eq]
    exact key s.heap [] _ 0 0 hR (ent_locals as (by rw [lg_len]; exact hw)) (fun _ hq => by cases hq) (by omega) (by omega)
