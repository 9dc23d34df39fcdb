/-! what never changes is set; what is made -/
theorem sF_len (S : aS) (c k : Nat) (v : Option Nat) : (sF S c k v).length = S.length := by simp [sF]
theorem sF_off {S : aS} {c c' k : Nat} {v : Option Nat} (h : c' ≠ c) : (sF S c k v).getD c' (999, 0, []) = S.getD c' (999, 0, []) := by
  unfold sF
  rw [List.getD_eq_getElem?_getD, List.getD_eq_getElem?_getD, List.getElem?_modify]
  cases S[c']? with
  | none => rfl
  | some e => show (if c = c' then _ else e) = e; exact if_neg (fun z => h z.symm)
theorem sF_on {S : aS} {c k : Nat} {v : Option Nat} (h : c < S.length) : (sF S c k v).getD c (999, 0, []) = ((S.getD c (999, 0, [])).1, (S.getD c (999, 0, [])).2.1, ((S.getD c (999, 0, [])).2.2 ++ List.replicate (k + 1 - (S.getD c (999, 0, [])).2.2.length) none).set k v) := by
  unfold sF
  rw [List.getD_eq_getElem?_getD, List.getD_eq_getElem?_getD, List.getElem?_modify, List.getElem?_eq_getElem h]
  show (if c = c then _ else _) = _
  exact if_pos rfl
theorem refs_get {r : List (Option Nat)} {k j : Nat} {v : Option Nat} : ((r ++ List.replicate (k + 1 - r.length) none).set k v).getD j none = if j = k then v else r.getD j none := by
  rw [List.getD_eq_getElem?_getD, List.getD_eq_getElem?_getD]
  by_cases e : j = k
  · subst e
    rw [if_pos rfl, List.getElem?_set_self (by simp; omega)]
    rfl
  · rw [if_neg e, List.getElem?_set_ne (fun z => e z.symm)]
    by_cases hj : j < r.length
    · rw [List.getElem?_append_left hj]
    · rw [List.getElem?_append_right (by omega), List.getElem?_replicate, List.getElem?_eq_none (by omega)]
      split <;> rfl
theorem sF_slc (S : aS) (c k : Nat) (v : Option Nat) : slc (sF S c k v) = slc S := by
  unfold slc sF
  congr 1
  apply List.ext_getElem?
  intro i
  rw [List.getElem?_map, List.getElem?_map, List.getElem?_modify]
  cases hS : S[i]? with
  | none => rfl
  | some e =>
    by_cases h : c = i
    · simp [h]
    · simp [h]
def gFF (own : String) (index k : Nat) (P : Nat → Prop) : Prop := ∃ ref nm ds, Cond.fieldLink own index ref nm ds ∈ tg ∧ ∀ ci, P ci → ∃ C T N, ClsOk ci C T N ∧ k < N ∧ (T k).2.1 = nm ∧ (T k).2.2.1 = ds ∧ ref = (T k).1 ∧ (T k).1 = own ∧ ftk ci k = 2
theorem sim_putF {mT : Nat → aM} {M : aM} {pc index k : Nat} {P : Nat → Prop} (hd : decode M.2.1 pc = .ok (.putfield index, 3)) (hF : gFF M.1.cls index k P) (hin : M.1.name = "<init>") : Sim mT M pc (oPutF P k (pc + 3)) := by
  intro G E n1 z1 d Q hM hfr hlo ls st S h o ho
  unfold oPutF oNx at ho
  split at ho
  · next x c st' =>
    obtain ⟨hg, ho⟩ := gd_some ho
    cases ho
    intro _ _ K H locs Ls cells slots hR hL hq hc hs
    obtain ⟨hx, hb, hml, hown, hts, hC, hsz, hn1, hold, hnm⟩ := hM
    obtain ⟨ref, nm, ds, hlk, hcl⟩ := hF
    obtain ⟨C, T, N, hok, hk, rfl, rfl, rfl, hdecl, hft⟩ := hcl _ hg
    obtain ⟨h8, hcc, hN, hat⟩ := obj_at hR hok
    obtain ⟨ty, hty⟩ := hok.2.2.1
    have hnf : narrow (ty k) (.ref (gad G x)) = .ref (gad G x) ∧ fits (ty k) (.ref (gad G x)) = true := by
      have h9 := (hty k hk).2.1
      rw [hft] at h9
      rcases h9 with ⟨z, -⟩ | ⟨z, -⟩ | ⟨z, -⟩ | ⟨-, h9⟩
      · exact absurd z (by decide)
      · exact absurd z (by decide)
      · exact absurd z (by decide)
      · rcases h9 with ⟨o, h9⟩ | ⟨o, h9⟩ <;> (rw [h9]; exact ⟨rfl, rfl⟩)
    refine va_putF hx hb hts hok.2.1 ty (fun j hj => (hty j hj).1) hok.2.2.2.1 hown hC.1 hR.1 gW_D (vaS0 hq) (c - 8) hat hok.1 k hk (hts _ hlk) (fun _ h => h) ((hty k hk).2.2.1 hft) (hnm hin) hdecl (hty k hk).1 hnf.1 hnf.2 (by simp; exact hk) hd (fun H1 locs1 hP1 hD1 hS1 => ?_)
    have e0 := sF_on (k := k) (v := some x) hcc
    have hx0 : gX G h c ((sF S c k (some x)).getD c (999, 0, [])) = .inr (aK S c, ((List.range N).map (fun k => gFV G (S.getD c (999, 0, [])) c k h)).set k (.ref (gad G x))) := by
      rw [e0]
      unfold gX
      rw [if_pos (show (S.getD c (999, 0, [])).1 < 100 from hok.2.2.2.2.1)]
      show Sum.inr (aK S c, (List.range (S.getD c (999, 0, [])).2.1).map _) = _
      rw [show (S.getD c (999, 0, [])).2.1 = N from hN]
      congr 2
      refine set_map_range hk ?_ (fun j hj => ?_)
      · unfold gFV
        rw [show ftk (S.getD c (999, 0, [])).1 k = 2 from hft]
        show va_rf ((List.getD _ k none).map (gad G)) = _
        rw [refs_get, if_pos rfl]; rfl
      · unfold gFV
        dsimp only
        rw [refs_get, if_neg hj]
    have hKL : aK (sF S c k (some x)) c = aK S c ∧ aL (sF S c k (some x)) c = aL S c := by unfold aK aL; rw [e0]; exact ⟨rfl, rfl⟩
    obtain ⟨g1, g2⟩ := hR.reshape (S' := sF S c k (some x)) hC h8 hcc (sF_len ..) (fun c' hc' => sF_off hc') hKL hx0 hP1 hS1
    exact K H1 locs1 Ls cells slots g1 hL g2 (by rw [sF_len]; exact hc) (by rw [sF_slc]; exact hs)
  · cases ho
theorem ast_row {G : aG} {E : aEv} {M : aM} {n1 z1 pc c x t ci : Nat} {S : aS} {h : aH} {H : Heap} {locs : List Loc} {Ls : Array Slot} {cells slots : Nat} {Q : State → Prop} {rest : List Value} {i : Int32} (hM : MC G E M n1) (hd : decode M.2.1 pc = .ok (.aastore, 1)) (hR : gR G S h H) (hq : ∀ q ∈ locs, gA G q.base)
    (hk : aK S c = 100 + t) (ht : t = 4 ∨ t = 5) (hxk : aK S x = ci) {C : String} {T : u_T} {N : Nat} (hok : ClsOk ci C T N) (hty : (gtys G)[t]? = some (G.2.1 t, .object C)) (hi : inB i (aL S c))
    (kk : ∀ (H1 : Heap) (locs1 : List Loc), gR G (sF S c i.toNatClampNeg (some x)) h H1 → (∀ q ∈ locs1, gA G q.base) → eW E H1 locs1 cells slots Q (F0 (eM E) (pc + 1) Ls rest)) : eW E H locs cells slots Q (F0 (eM E) pc Ls (.ref (gad G x) :: .int i :: .ref (gad G c) :: rest)) := by
  obtain ⟨hx, hb, hml, hown, hts, hC, hsz, hn1, hold, hnm⟩ := hM
  obtain ⟨h8, hcc, hat⟩ := arrA_at hR hk ht
  subst hxk
  obtain ⟨g8, gcc, gN, gat⟩ := obj_at hR hok
  refine va_astq hx hb hC.1 hR.1 gW_D (vaS0 hq) (c - 8) t (x - 8) (aK S x) hat hty gat hok.1 (inB_iff.mp hi) hd (fun H1 locs1 hP1 hD1 hS1 => ?_)
  have e0 := sF_on (k := i.toNatClampNeg) (v := some x) hcc
  have hx0 : gX G h c ((sF S c i.toNatClampNeg (some x)).getD c (999, 0, [])) = .inl (G.2.1 t, aL S c, .inr (.inr (.inr (.inr (va_up (fun j => (aF S c j).map (gad G)) i.toNatClampNeg (some (gad G x))))))) := by
    rw [e0]
    have e : (S.getD c (999, 0, [])).1 = 100 + t := hk
    unfold gX
    dsimp only
    rw [if_neg (by omega), if_neg (by omega), if_pos (by omega), e, show 100 + t - 100 = t by omega]
    congr 5
    refine congrArg (fun q => Sum.inr (Sum.inr q)) (funext fun j => ?_)
    rw [refs_get]
    unfold va_up
    by_cases e2 : j = i.toNatClampNeg
    · rw [if_pos e2, if_pos e2]; rfl
    · rw [if_neg e2, if_neg e2]; rfl
  have hKL : aK (sF S c i.toNatClampNeg (some x)) c = aK S c ∧ aL (sF S c i.toNatClampNeg (some x)) c = aL S c := by unfold aK aL; rw [e0]; exact ⟨rfl, rfl⟩
  obtain ⟨g1, g2⟩ := hR.reshape (S' := sF S c i.toNatClampNeg (some x)) hC h8 hcc (sF_len ..) (fun c' hc' => sF_off hc') hKL hx0 hP1 hS1
  exact kk H1 locs1 g1 g2
theorem sim_aastore {mT : Nat → aM} {M : aM} {pc : Nat} (hd : decode M.2.1 pc = .ok (.aastore, 1)) : Sim mT M pc (oAStA (pc + 1)) := by
  intro G E n1 z1 d Q hM hfr hlo ls st S h o ho
  unfold oAStA oNx at ho
  split at ho
  · next x i c st' =>
    obtain ⟨hg, ho⟩ := gd_some ho
    obtain ⟨hi, ho⟩ := gd_some ho
    cases ho
    intro _ _ K H locs Ls cells slots hR hL hq hc hs
    rcases hg with ⟨h1, h2⟩ | ⟨h1, h2⟩
    · exact ast_row (n1 := n1) (z1 := z1) (t := 4) hM hd hR hq h1 (Or.inl rfl) h2 okC6 rfl hi (fun H1 locs1 g1 g2 => K H1 locs1 Ls cells slots g1 hL g2 (by rw [sF_len]; exact hc) (by rw [sF_slc]; exact hs))
    · exact ast_row (n1 := n1) (z1 := z1) (t := 5) hM hd hR hq h1 (Or.inr rfl) h2 okC3 rfl hi (fun H1 locs1 g1 g2 => K H1 locs1 Ls cells slots g1 hL g2 (by rw [sF_len]; exact hc) (by rw [sF_slc]; exact hs))
  · cases ho
/-- the heap's size, out of the machine's own count -/
theorem W_size {G : aG} {E : aEv} {M : aM} {n1 : Nat} {S : aS} {h : aH} {H : Heap} {locs : List Loc} {cells slots : Nat} {Q : State → Prop} {g : JFrame} (hM : MC G E M n1) (hR : gR G S h H) (hc : n1 + cells = S.length) (k : H.size = gad G S.length → eW E H locs cells slots Q g) : eW E H locs cells slots Q g := by
  intro T hT X
  obtain ⟨hx, hb, hml, hown, hts, hC, hsz, hn1, hold, hnm⟩ := hM
  have h1 := X.heapSize
  rw [hT] at h1
  have h8 := hR.len
  refine k ?_ T hT X
  rw [gad_new h8]
  have h2 : G.2.2.1 + (S.length - 8) ≤ H.size := by
    rcases Nat.eq_or_lt_of_le h8 with e | e
    · have := hR.base_le hC; omega
    · have h3 := (hR.1 _ _ (gW_at (c := S.length - 1) (by omega) (by omega))).lt
      rw [gad_new (by omega)] at h3
      simp only at h3
      omega
  have h4 : H.size ≤ (eS E).heap.size + cells := h1
  omega
theorem gR.push {G : aG} {S : aS} {h : aH} {H H1 : Heap} {U : State} {e : aE} (hR : gR G S h H) (hC : gC G U) (hz : H.size = gad G S.length) (ho : ∀ q, q < H.size → H1[q]? = H[q]?) (hn : va_at G.1 classes (gad G S.length, gX G (sZ h S.length) S.length e) H1) (he : (e.1 < 100 → ∃ r : vw_C, classes[e.1]? = some r ∧ r.2.2 = e.2.1) ∧ e.1 ≤ 105) : gR G (S ++ [e]) (sZ h S.length) H1 := by
  have h8 := hR.len
  have hb := hR.base_le hC
  have off : ∀ c' : Nat, c' < S.length → ∀ k, (sZ h S.length).1 c' k = h.1 c' k := fun c' hc' k => if_neg (by omega)
  refine ⟨?_, ?_, fun c g8 gc => ?_, fun q hq => ?_, fun j hj => ?_, fun j hj => ?_, fun i hi j hj => ?_⟩
  · rw [gW_push (h := h) h8 off (fun c' hc' k => if_neg (by omega)) (fun c' hc' k => if_neg (by omega))]
    refine (hR.1.kept (fun k x hx => ho x.1 ((hR.1 k x hx).lt))).app (fun k x hx => ?_)
    have hz : k < 1 := (List.getElem?_eq_some_iff.mp hx).1
    rw [show k = 0 by omega] at hx
    cases hx
    exact hn
  · rw [List.take_append_of_le_length h8]; exact hR.2.1
  · rw [List.length_append, List.length_singleton] at gc
    by_cases hcc : c < S.length
    · have e1 : (S ++ [e]).getD c (999, 0, []) = S.getD c (999, 0, []) := by rw [List.getD_eq_getElem?_getD, List.getD_eq_getElem?_getD, List.getElem?_append_left hcc]
      unfold aK aL
      rw [e1]
      exact hR.2.2.1 c g8 hcc
    · have e1 : (S ++ [e]).getD c (999, 0, []) = e := by rw [List.getD_eq_getElem?_getD, List.getElem?_append_right (by omega), show c - S.length = 0 by omega]; rfl
      unfold aK aL
      rw [e1]
      exact he
  · rw [ho q (by omega)]; exact hR.2.2.2.1 q hq
  · rw [off 0 (by omega)]; exact hR.2.2.2.2.1 j hj
  · rw [off 1 (by omega)]; exact hR.2.2.2.2.2.1 j hj
  · rw [off (5 + i) (by omega)]; exact hR.2.2.2.2.2.2 i hi j hj
theorem slc_push (S : aS) (e : aE) : slc (S ++ [e]) = slc S + e.2.1 := by simp [slc]
theorem sim_new {mT : Nat → aM} {M : aM} {pc index ci N : Nat} {C : String} {T : u_T} (hd : decode M.2.1 pc = .ok (.new index, 3)) (hl : Cond.classLink M.1.cls index C ∈ tg) (hok : ClsOk ci C T N) (hnw : ClsNew C N) : Sim mT M pc (oNew ci N (pc + 3)) := by
  intro G E n1 z1 d Q hM hfr hlo ls st S h o ho
  unfold oNew oNx at ho
  cases ho
  intro hr1 hr2 K H locs Ls cells slots hR hL hq hc hs
  refine W_size hM hR hc (fun hz => ?_)
  obtain ⟨hx, hb, hml, hown, hts, hC, hsz, hn1, hold, hnm⟩ := hM
  rw [List.length_append, List.length_singleton] at hr1
  rw [slc_push] at hr2
  have hKn := hC.1.1 ci _ hok.1
  obtain ⟨ty, hty⟩ := hok.2.2.1
  refine W.newcK hx hb hown (hts _ hl) (hts _ hnw.1) (hts _ hnw.2) rfl hd (show cells + 1 ≤ (eR E).cells by omega) (show slots + N ≤ (eR E).slots by simp only at hr2; omega) hKn.2.1 hz fun H1 kC hkC e1 z1' o1 => ?_
  have hg : gR G (S ++ [(ci, N, [])]) (sZ h S.length) H1 := by
    refine hR.push hC hz (fun q hq => o1 q (by rw [← hz]; exact hq)) ?_ ⟨fun _ => ⟨_, hok.1, rfl⟩, by have := hok.2.2.2.2.1; simp only; omega⟩
    unfold gX
    rw [if_pos hok.2.2.2.2.1]
    refine ⟨_, hok.1, (u_born ty hts hok.2.1 hKn hkC e1 (fun k hk => (hty k hk).1)).to (fun k hk => ?_)⟩
    unfold vp_V
    rw [List.getD_eq_getElem?_getD, List.getElem?_map, List.getElem?_range hk]
    show _ = gFV G _ _ _ _
    unfold gFV
    have h9 := (hty k hk).2.1
    rcases h9 with ⟨z, h9⟩ | ⟨z, h9⟩ | ⟨z, h9⟩ | ⟨z | z, h9⟩
    · rw [h9, z]; simp [sZ, defaultValue]
    · rw [h9, z]; simp [sZ, defaultValue]
    · rw [h9, z]; simp [sZ, defaultValue]
    · rcases h9 with ⟨o, h9⟩ | ⟨o, h9⟩ <;> (rw [h9, z]; simp [va_rf, defaultValue])
    · rcases h9 with ⟨o, h9⟩ | ⟨o, h9⟩ <;> (rw [h9, z]; simp [sZ, va_rf, defaultValue])
  exact K H1 locs Ls (cells + 1) (slots + N) hg hL hq (by rw [List.length_append, List.length_singleton]; omega) (by rw [slc_push]; simp only; omega)
theorem toNat_of {x : Int32} (h1 : 0 ≤ x.toInt) : ¬ x < 0 := by
  rw [Int32.lt_iff_toInt_lt]
  simp
  exact h1
theorem clamp_le {x : Int32} (h2 : x.toInt ≤ 2000) : x.toNatClampNeg ≤ 2000 := by
  show x.toInt.toNat ≤ 2000
  omega
theorem sim_newarray {mT : Nat → aM} {M : aM} {pc t : Nat} {atype : ArrayType} (hd : decode M.2.1 pc = .ok (.newarray atype, 2)) (hl : Cond.arrayClass (newarray.typeOf atype) ∈ tg) (ht : (t = 0 ∧ newarray.typeOf atype = .int) ∨ (t = 1 ∧ newarray.typeOf atype = .byte) ∨ (t = 2 ∧ newarray.typeOf atype = .boolean) ∨ (t = 3 ∧ newarray.typeOf atype = .long)) : Sim mT M pc (oNewA (100 + t) (pc + 2)) := by
  intro G E n1 z1 d Q hM hfr hlo ls st S h o ho
  unfold oNewA oNx at ho
  split at ho
  · next x st' =>
    obtain ⟨⟨hg1, hg2⟩, ho⟩ := gd_some ho
    cases ho
    intro hr1 hr2 K H locs Ls cells slots hR hL hq hc hs
    refine W_size hM hR hc (fun hz => ?_)
    obtain ⟨hx, hb, hml, hown, hts, hC, hsz, hn1, hold, hnm⟩ := hM
    rw [List.length_append, List.length_singleton] at hr1
    rw [slc_push] at hr2
    have h20 := clamp_le hg2
    have hcb : x.toNatClampNeg * componentBytes (newarray.typeOf atype) ≤ 536870912 := by
      rcases ht with ⟨-, e⟩ | ⟨-, e⟩ | ⟨-, e⟩ | ⟨-, e⟩ <;> (rw [e]; simp only [componentBytes]; omega)
    refine va_newaK hx hb (hts _ hl) rfl hd rfl (toNat_of hg1) rfl hcb (show cells + 1 ≤ (eR E).cells by omega) (show slots + x.toNatClampNeg ≤ (eR E).slots by simp only at hr2; omega) hz fun H1 cA e1 z1' o1 hAr hNm => ?_
    have hcA : cA = G.2.1 t := by
      rcases ht with ⟨rfl, e⟩ | ⟨rfl, e⟩ | ⟨rfl, e⟩ | ⟨rfl, e⟩
      · have h9 := (hC.1.2 0 _ rfl).2; rw [e] at hNm; exact Option.some.inj (hNm.symm.trans h9)
      · have h9 := (hC.1.2 1 _ rfl).2; rw [e] at hNm; exact Option.some.inj (hNm.symm.trans h9)
      · have h9 := (hC.1.2 2 _ rfl).2; rw [e] at hNm; exact Option.some.inj (hNm.symm.trans h9)
      · have h9 := (hC.1.2 3 _ rfl).2; rw [e] at hNm; exact Option.some.inj (hNm.symm.trans h9)
    subst hcA
    have hg : gR G (S ++ [(100 + t, x.toNatClampNeg, [])]) (sZ h S.length) H1 := by
      refine hR.push hC hz (fun q hq => o1 q (by rw [← hz]; exact hq)) ?_ ⟨fun z => absurd z (by simp only; omega), by simp only; omega⟩
      have zI : (sZ h S.length).1 S.length = fun _ => 0 := by funext k; exact if_pos rfl
      have zL : (sZ h S.length).2.1 S.length = fun _ => 0 := by funext k; exact if_pos rfl
      unfold gX
      rw [if_neg (by simp only; omega)]
      rcases ht with ⟨rfl, e⟩ | ⟨rfl, e⟩ | ⟨rfl, e⟩ | ⟨rfl, e⟩
      · rw [if_neg (by simp only; decide), if_neg (by simp only; decide), zI]; rw [e] at e1; exact e1
      · rw [if_neg (by simp only; decide), if_neg (by simp only; decide), zI]; rw [e] at e1; exact e1
      · rw [if_neg (by simp only; decide), if_neg (by simp only; decide), zI]; rw [e] at e1; exact e1
      · rw [if_pos rfl, zL]; rw [e] at e1; exact e1
    exact K H1 locs Ls (cells + 1) (slots + x.toNatClampNeg) hg hL hq (by rw [List.length_append, List.length_singleton]; omega) (by rw [slc_push]; simp only; omega)
  · cases ho
theorem sim_anewarray {mT : Nat → aM} {M : aM} {pc t index : Nat} {C : String} (hd : decode M.2.1 pc = .ok (.anewarray index, 3)) (hl : Cond.classLink M.1.cls index C ∈ tg) (ha : Cond.arrayOver (.object C) ∈ tb) (ht : (t = 4 ∧ C = RC6) ∨ (t = 5 ∧ C = RC3)) : Sim mT M pc (oNewA (100 + t) (pc + 3)) := by
  intro G E n1 z1 d Q hM hfr hlo ls st S h o ho
  unfold oNewA oNx at ho
  split at ho
  · next x st' =>
    obtain ⟨⟨hg1, hg2⟩, ho⟩ := gd_some ho
    cases ho
    intro hr1 hr2 K H locs Ls cells slots hR hL hq hc hs
    refine W_size hM hR hc (fun hz => ?_)
    obtain ⟨hx, hb, hml, hown, hts, hC, hsz, hn1, hold, hnm⟩ := hM
    rw [List.length_append, List.length_singleton] at hr1
    rw [slc_push] at hr2
    have h20 := clamp_le hg2
    refine W.anew hx hb hown (hts _ hl) (va_AO.use (hC.2.2.2.2.2.2.2.1 _ ha rfl)) rfl hd rfl (toNat_of hg1) (by omega) (show cells + 1 ≤ (eR E).cells by omega) (show slots + x.toNatClampNeg ≤ (eR E).slots by simp only at hr2; omega) fun cA kA comp f1 f2 f3 f4 => ?_
    generalize hH1 : H.push ({ cls := cA, slots := Array.replicate x.toNatClampNeg .null, vm := .none } : Cell) = H1
    have e1 : H1[H.size]? = some (arrV cA x.toNatClampNeg (fun _ => .null)) := by rw [← hH1, Array.getElem?_push_size, ← arrV_new]
    have o1 : ∀ q : Nat, q < H.size → H1[q]? = H[q]? := fun q hq => by rw [← hH1, Array.getElem?_push, if_neg (Nat.ne_of_lt hq)]
    have hcA : cA = G.2.1 t := by
      rcases ht with ⟨rfl, e⟩ | ⟨rfl, e⟩
      · obtain ⟨_, _, _, _, _, h9⟩ := (hC.1.2 4 _ rfl).2; rw [e] at f1; exact Option.some.inj (f1.symm.trans h9)
      · obtain ⟨_, _, _, _, _, h9⟩ := (hC.1.2 5 _ rfl).2; rw [e] at f1; exact Option.some.inj (f1.symm.trans h9)
    subst hcA
    have hg : gR G (S ++ [(100 + t, x.toNatClampNeg, [])]) (sZ h S.length) H1 := by
      refine hR.push hC hz o1 ?_ ⟨fun z => absurd z (by simp only; omega), by simp only; omega⟩
      unfold gX
      rw [if_neg (by simp only; omega), if_neg (by simp only; omega), if_pos (by simp only; omega)]
      rw [hz] at e1
      show H1[gad G S.length]? = some (vp_cell _ _)
      rw [e1, vp_cell_q]
      simp only [List.getD_nil, Option.map_none, va_rf, show 100 + t - 100 = t by omega]
    rw [hz]
    exact K H1 locs Ls (cells + 1) (slots + x.toNatClampNeg) hg hL hq (by rw [List.length_append, List.length_singleton]; omega) (by rw [slc_push]; simp only; omega)
  · cases ho
theorem sim_obj {mT : Nat → aM} {M : aM} {pc index : Nat} (hd : decode M.2.1 pc = .ok (.invokespecial index, 3)) (hl : Cond.methodLink M.1.cls index Lib.objectInit ∈ tg) (h1 : Cond.instanceMethod Lib.objectInit ∈ tg) (h2 : Cond.code Lib.objectInit ⟨#[0xb1]⟩ 1 none ∈ tg) : Sim mT M pc (oObj (pc + 3)) := by
  intro G E n1 z1 d Q hM hfr hlo ls st S h o ho
  unfold oObj oNx at ho
  split at ho
  · next c st' =>
    obtain ⟨⟨hg1, hg2⟩, ho⟩ := gd_some ho
    cases ho
    intro hr1 hr2 K H locs Ls cells slots hR hL hq hc hs
    obtain ⟨hx, hb, hml, hown, hts, hC, hsz, hn1, hold, hnm⟩ := hM
    refine W.objInit hx hb hown (hts _ hl) (hts _ h1) (hts _ h2) rfl (by show Ls.size = _; rw [hml]; exact hL.2.1) (rest := st'.map (gv G)) rfl hd (show 1 ≤ (eR E).frames by omega) ?_ (K H locs Ls cells slots hR hL hq hc hs)
    rw [gv_sum]
    show 2 * 0 + _ + 12 ≤ (eR E).locals
    omega
  · cases ho
theorem sim_copy {mT : Nat → aM} {M : aM} {pc index : Nat} (hd : decode M.2.1 pc = .ok (.invokestatic index, 3)) (hl : Cond.methodLink M.1.cls index arraycopyName ∈ tg) (h1 : Cond.native arraycopyName ∈ tg) (h2 : Cond.static arraycopyName ∈ tg) (h3 : Cond.initialized "java/lang/System" ∈ tg) : Sim mT M pc (oCopy (pc + 3)) := by
  intro G E n1 z1 d Q hM hfr hlo ls st S h o ho
  unfold oCopy oNx at ho
  split at ho
  · next k dp b sp a st' =>
    obtain ⟨⟨hg1, hg2, hg3⟩, ho⟩ := gd_some ho
    obtain ⟨⟨i1, i2, i3, i4, i5⟩, ho⟩ := gd_some ho
    cases ho
    intro hr1 hr2 K H locs Ls cells slots hR hL hq hc hs
    obtain ⟨hx, hb, hml, hown, hts, hC, hsz, hn1, hold, hnm⟩ := hM
    have j4 : sp.toNatClampNeg + k.toNatClampNeg ≤ aL S a := by show sp.toInt.toNat + k.toInt.toNat ≤ _; omega
    have j5 : dp.toNatClampNeg + k.toNatClampNeg ≤ aL S b := by show dp.toInt.toNat + k.toInt.toNat ≤ _; omega
    have hloc : ((st'.map (gv G)).map fun v => v.category).sum + (nativeFrameWords "java/lang/System" "arraycopy" 5 + 11) ≤ (eR E).locals := by
      rw [gv_sum, show nativeFrameWords "java/lang/System" "arraycopy" 5 = 7 from by decide +kernel]
      omega
    rcases hg3 with ⟨ha, hbk⟩ | ⟨ha, hbk⟩
    · rw [br_pos ha] at K
      obtain ⟨a8, acl, aat, agx⟩ := arr_at (t := 0) hR ha (by decide)
      obtain ⟨b8, bcl, bat, bgx⟩ := arr_at (t := 0) hR hbk (by decide)
      refine va_copyi hx hb (hml.trans hL.2.1.symm) hown (hts _ hl) (hts _ h1) (hts _ h2) (hts _ h3) hC.1 hR.1 gW_D (vaS0 hq) (a - 8) (b - 8) 0 0 aat bat rfl rfl rfl (toNat_of i1) (toNat_of i2) (toNat_of i3) j4 j5 (fun _ _ => rfl) (show 1 ≤ (eR E).frames by omega) hloc hd (fun H1 locs1 hP1 hD1 hS1 => ?_)
      obtain ⟨g1, g2⟩ := hR.upd (h' := sCI h a b sp.toNatClampNeg dp.toNatClampNeg k.toNatClampNeg) hC b8 bcl (fun c' hc' j => if_neg hc') (fun _ _ _ => rfl) (fun _ _ _ => rfl) (by rw [bgx]; congr 3; congr 1; funext j; exact if_pos rfl) hP1 hS1
      exact K H1 locs1 Ls cells slots g1 hL g2 hc hs
    · rw [br_neg (by omega)] at K
      obtain ⟨a8, acl, aat, agx⟩ := arrL_at hR ha
      obtain ⟨b8, bcl, bat, bgx⟩ := arrL_at hR hbk
      refine va_copyl hx hb (hml.trans hL.2.1.symm) hown (hts _ hl) (hts _ h1) (hts _ h2) (hts _ h3) hC.1 hR.1 gW_D (vaS0 hq) (a - 8) (b - 8) 3 3 aat bat rfl rfl rfl (toNat_of i1) (toNat_of i2) (toNat_of i3) j4 j5 (fun _ _ => rfl) (show 1 ≤ (eR E).frames by omega) hloc hd (fun H1 locs1 hP1 hD1 hS1 => ?_)
      obtain ⟨g1, g2⟩ := hR.upd (h' := sCL h a b sp.toNatClampNeg dp.toNatClampNeg k.toNatClampNeg) hC b8 bcl (fun _ _ _ => rfl) (fun c' hc' j => if_neg hc') (fun _ _ _ => rfl) (by rw [bgx]; congr 4; congr 1; funext j; exact if_pos rfl) hP1 hS1
      exact K H1 locs1 Ls cells slots g1 hL g2 hc hs
  · cases ho
