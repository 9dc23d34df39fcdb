/-! instructions over the heap -/
theorem gR.base_le {G : aG} {S : aS} {h : aH} {H : Heap} {U : State} (hR : gR G S h H) (hC : gC G U) : G.2.2.1 ≤ H.size := by
  have hz : G.2.2.2.2.2.2.size = G.2.2.1 := hC.2.2.2.2.2.2.2.2.1
  rcases Nat.eq_zero_or_pos G.2.2.1 with h0 | h0
  · omega
  · have h1 := hR.2.2.2.1 (G.2.2.1 - 1) (by omega)
    rw [Array.getElem?_eq_getElem (xs := G.2.2.2.2.2.2) (i := G.2.2.1 - 1) (by omega)] at h1
    have := (Array.getElem?_eq_some_iff.mp h1).1
    omega
theorem gR.upd {G : aG} {S : aS} {h h' : aH} {H H1 : Heap} {U : State} {c : Nat} {x : va_E} {locs1 : List Loc} (hR : gR G S h H) (hC : gC G U) (h8 : 8 ≤ c) (hc : c < S.length) (h1 : ∀ c', c' ≠ c → ∀ k, h'.1 c' k = h.1 c' k) (h2 : ∀ c', c' ≠ c → ∀ k, h'.2.1 c' k = h.2.1 c' k) (h3 : ∀ c', c' ≠ c → ∀ k, h'.2.2 c' k = h.2.2 c' k)
    (hx : gX G h' c (S.getD c (999, 0, [])) = x) (hP : va_P G.1 classes ((gW G S h).set (c - 8) (gad G c, x)) H1) (hS : va_S (gA G) H H1 locs1) : gR G S h' H1 ∧ ∀ q ∈ locs1, gA G q.base := by
  have hb := hR.base_le hC
  refine ⟨⟨by rw [gW_set (h := h) h8 hc h1 h2 h3 hx]; exact hP, hR.2.1, hR.2.2.1, fun q hq => ?_, fun j hj => ?_, fun j hj => ?_, fun i hi j hj => ?_⟩, hS.2.2⟩
  · rw [hS.2.1 q (by omega) (fun z => absurd z (Nat.not_le.mpr hq))]
    exact hR.2.2.2.1 q hq
  · rw [h1 0 (by omega)]; exact hR.2.2.2.2.1 j hj
  · rw [h1 1 (by omega)]; exact hR.2.2.2.2.2.1 j hj
  · rw [h1 (5 + i) (by omega)]; exact hR.2.2.2.2.2.2 i hi j hj
theorem gR.reshape {G : aG} {S S' : aS} {h : aH} {H H1 : Heap} {U : State} {c : Nat} {x : va_E} {locs1 : List Loc} (hR : gR G S h H) (hC : gC G U) (h8 : 8 ≤ c) (hc : c < S.length) (hl : S'.length = S.length) (ho : ∀ c', c' ≠ c → S'.getD c' (999, 0, []) = S.getD c' (999, 0, [])) (hk : aK S' c = aK S c ∧ aL S' c = aL S c)
    (hx : gX G h c (S'.getD c (999, 0, [])) = x) (hP : va_P G.1 classes ((gW G S h).set (c - 8) (gad G c, x)) H1) (hS : va_S (gA G) H H1 locs1) : gR G S' h H1 ∧ ∀ q ∈ locs1, gA G q.base := by
  have hb := hR.base_le hC
  have hlen := hR.len
  refine ⟨⟨by rw [gW_shape (S := S) h8 hc hl ho hx]; exact hP, ?_, fun c' g8 gc => ?_, fun q hq => ?_, hR.2.2.2.2⟩, hS.2.2⟩
  · rw [← hR.2.1]
    apply List.ext_getElem?
    intro i
    by_cases hi : i < 8
    · rw [List.getElem?_take_of_lt hi, List.getElem?_take_of_lt hi]
      have e := ho i (by omega)
      rw [List.getD_eq_getElem?_getD, List.getD_eq_getElem?_getD, List.getElem?_eq_getElem (show i < S'.length by omega), List.getElem?_eq_getElem (show i < S.length by omega)] at e
      rw [List.getElem?_eq_getElem (show i < S'.length by omega), List.getElem?_eq_getElem (show i < S.length by omega)]
      exact congrArg some e
    · rw [List.getElem?_eq_none (by rw [List.length_take]; omega), List.getElem?_eq_none (by rw [List.length_take]; omega)]
  · have hk2 : aK S' c' = aK S c' ∧ aL S' c' = aL S c' := by
      by_cases e : c' = c
      · subst e; exact hk
      · unfold aK aL; rw [ho c' e]; exact ⟨rfl, rfl⟩
    rw [hk2.1, hk2.2]
    exact hR.2.2.1 c' g8 (by omega)
  · rw [hS.2.1 q (by omega) (fun z => absurd z (Nat.not_le.mpr hq))]
    exact hR.2.2.2.1 q hq
theorem vaS0 {G : aG} {H : Heap} {locs : List Loc} (hq : ∀ q ∈ locs, gA G q.base) : va_S (gA G) H H locs := ⟨Nat.le_refl _, fun _ _ _ => rfl, hq⟩
/-- since the method began nothing old has changed -/
theorem vaSs {G : aG} {E : aEv} {M : aM} {n1 cells : Nat} {S : aS} {h : aH} {H : Heap} {locs : List Loc} (hM : MC G E M n1) (hR : gR G S h H) (hq : ∀ q ∈ locs, gA G q.base) (hc : n1 + cells = S.length) : va_S (gA G) (eS E).heap H locs := by
  obtain ⟨hx, hb, hml, hown, hts, hC, hsz, hn1, hold, hnm⟩ := hM
  refine ⟨?_, fun q h1 h2 => ?_, hq⟩
  · rcases Nat.eq_or_lt_of_le hR.len with e | e
    · have := hR.base_le hC; omega
    · have h1 := (hR.1 _ _ (gW_at (c := S.length - 1) (by omega) (by omega))).lt
      rw [gad_new (by omega)] at h1
      simp only at h1
      omega
  · have hlt : q < G.2.2.1 := Nat.not_le.mp h2
    rw [hR.2.2.2.1 q hlt, hold q hlt]
theorem set_map_range {f g : Nat → Value} {n k : Nat} {v : Value} (hk : k < n) (h1 : g k = v) (h2 : ∀ j, j ≠ k → g j = f j) : (List.range n).map g = ((List.range n).map f).set k v := by
  apply List.ext_getElem?
  intro i
  by_cases hi : i < n
  · rw [List.getElem?_map, List.getElem?_range hi]
    by_cases e : i = k
    · subst e
      rw [List.getElem?_set_self (by simp; exact hi)]
      simp [h1]
    · rw [List.getElem?_set_ne (fun z => e z.symm), List.getElem?_map, List.getElem?_range hi]
      simp [h2 i e]
  · rw [List.getElem?_eq_none (by simp; omega), List.getElem?_eq_none (by simp; omega)]
/-- a field by its link: in every class of P it is the k-th, of a kind of ft -/
def gF (own : String) (index k : Nat) (P : Nat → Prop) (ft : Nat → Prop) : Prop := ∃ ref nm ds, Cond.fieldLink own index ref nm ds ∈ tg ∧ ∀ ci, P ci → ∃ C T N, ClsOk ci C T N ∧ k < N ∧ (T k).2.1 = nm ∧ (T k).2.2.1 = ds ∧ (ref = (T k).1 ∨ Cond.sameField ref (T k).1 nm ds ∈ tg) ∧ ft (ftk ci k)
theorem obj_at {G : aG} {S : aS} {h : aH} {H : Heap} {c : Nat} {C : String} {T : u_T} {N : Nat} (hR : gR G S h H) (hok : ClsOk (aK S c) C T N) : 8 ≤ c ∧ c < S.length ∧ aL S c = N ∧ (gW G S h)[c - 8]? = some (gad G c, .inr (aK S c, (List.range N).map (fun k => gFV G (S.getD c (999, 0, [])) c k h))) := by
  have h100 : aK S c < 100 := hok.2.2.2.2.1
  obtain ⟨h8, hc⟩ := aK_new hR (Nat.lt_trans h100 (by decide))
  obtain ⟨r, hr1, hr2⟩ := (hR.2.2.1 c h8 hc).1 h100
  have e : r = (C, T, N) := Option.some.inj (hr1.symm.trans hok.1)
  subst e
  refine ⟨h8, hc, hr2.symm, ?_⟩
  rw [gW_at h8 hc]
  unfold gX
  rw [if_pos (show (S.getD c (999, 0, [])).1 < 100 from h100)]
  have : (S.getD c (999, 0, [])).2.1 = N := hr2.symm
  rw [this]
  rfl
theorem sameF {args : Array Value} {s : State} {ref O nm ds : String} (hts : ∀ w ∈ tg, w.before args s = true) (h : ref = O ∨ Cond.sameField ref O nm ds ∈ tg) : ∀ x, s.fieldFound? O nm ds = some x → s.fieldFound? ref nm ds = some x := by
  rcases h with rfl | h
  · exact fun _ h => h
  · exact fun x hx => u_same (hts _ h) x hx
theorem get_row {G : aG} {E : aEv} {M : aM} {n1 pc index k c : Nat} {P ft : Nat → Prop} {S : aS} {h : aH} {H : Heap} {locs : List Loc} {Ls : Array Slot} {cells slots : Nat} {Q : State → Prop} {rest : List Value} (hM : MC G E M n1) (hF : gF M.1.cls index k P ft) (hd : decode M.2.1 pc = .ok (.getfield index, 3)) (hR : gR G S h H) (hp : P (aK S c))
    (kk : ft (ftk (aK S c) k) → eW E H locs cells slots Q (F0 (eM E) (pc + 3) Ls (gFV G (S.getD c (999, 0, [])) c k h :: rest))) : eW E H locs cells slots Q (F0 (eM E) pc Ls (.ref (gad G c) :: rest)) := by
  obtain ⟨hx, hb, hml, hown, hts, hC, hsz, hn1, hold, hnm⟩ := hM
  obtain ⟨ref, nm, ds, hlk, hcl⟩ := hF
  obtain ⟨C, T, N, hok, hk, rfl, rfl, hsm, hft⟩ := hcl _ hp
  obtain ⟨h8, hc, hN, hat⟩ := obj_at hR hok
  exact va_get hx hb hts hok.2.1 hown hC.1 hR.1 (c - 8) hat hok.1 k hk (hts _ hlk) (sameF hts hsm) (by rw [List.getElem?_map, List.getElem?_range hk]; rfl) hd (kk hft)
theorem put_row {G : aG} {E : aEv} {M : aM} {n1 pc index k c : Nat} {P ft : Nat → Prop} {S : aS} {h h' : aH} {H : Heap} {locs : List Loc} {Ls : Array Slot} {cells slots : Nat} {Q : State → Prop} {rest : List Value} {v : Value} (hM : MC G E M n1) (hF : gF M.1.cls index k P ft) (hd : decode M.2.1 pc = .ok (.putfield index, 3)) (hR : gR G S h H) (hq : ∀ q ∈ locs, gA G q.base) (hp : P (aK S c))
    (hn2 : ∀ n, ft n → n ≠ 2) (h1 : ∀ c', c' ≠ c → ∀ k, h'.1 c' k = h.1 c' k) (h2 : ∀ c', c' ≠ c → ∀ k, h'.2.1 c' k = h.2.1 c' k) (h3 : ∀ c', c' ≠ c → ∀ k, h'.2.2 c' k = h.2.2 c' k)
    (hv : ft (ftk (aK S c) k) → gFV G (S.getD c (999, 0, [])) c k h' = v) (hvo : ∀ j, j ≠ k → gFV G (S.getD c (999, 0, [])) c j h' = gFV G (S.getD c (999, 0, [])) c j h)
    (hnf : ∀ ty : FieldType, ft (ftk (aK S c) k) → ((ftk (aK S c) k = 1 ∧ ty = .long) ∨ (ftk (aK S c) k = 0 ∧ ty = .int) ∨ (ftk (aK S c) k = 4 ∧ ty = .boolean) ∨ ((ftk (aK S c) k = 2 ∨ ftk (aK S c) k = 3) ∧ ((∃ o, ty = .object o) ∨ ∃ o, ty = .array o))) → narrow ty v = v ∧ fits ty v = true)
    (kk : ∀ (H1 : Heap) (locs1 : List Loc), gR G S h' H1 → (∀ q ∈ locs1, gA G q.base) → eW E H1 locs1 cells slots Q (F0 (eM E) (pc + 3) Ls rest)) : eW E H locs cells slots Q (F0 (eM E) pc Ls (v :: .ref (gad G c) :: rest)) := by
  obtain ⟨hx, hb, hml, hown, hts, hC, hsz, hn1, hold, hnm⟩ := hM
  obtain ⟨ref, nm, ds, hlk, hcl⟩ := hF
  obtain ⟨C, T, N, hok, hk, rfl, rfl, hsm, hft⟩ := hcl _ hp
  obtain ⟨h8, hc, hN, hat⟩ := obj_at hR hok
  obtain ⟨ty, hty⟩ := hok.2.2.1
  have hnf := hnf (ty k) hft (hty k hk).2.1
  refine va_put hx hb hts hok.2.1 ty (fun j hj => (hty j hj).1) hok.2.2.2.1 hown hC.1 hR.1 gW_D (vaS0 hq) (c - 8) hat hok.1 k hk (hts _ hlk) (sameF hts hsm) ((hty k hk).2.2.2 (hn2 _ hft)) (hty k hk).1 hnf.1 hnf.2 (by simp; exact hk) hd (fun H1 locs1 hP1 hD1 hS1 => ?_)
  have hx0 : gX G h' c (S.getD c (999, 0, [])) = .inr (aK S c, ((List.range N).map (fun k => gFV G (S.getD c (999, 0, [])) c k h)).set k v) := by
    unfold gX
    rw [if_pos (show (S.getD c (999, 0, [])).1 < 100 from hok.2.2.2.2.1), show (S.getD c (999, 0, [])).2.1 = N from hN, ← set_map_range hk (hv hft) hvo]
    rfl
  obtain ⟨g1, g2⟩ := hR.upd hC h8 hc h1 h2 h3 hx0 hP1 hS1
  exact kk H1 locs1 g1 g2
theorem gv_rf (G : aG) (r : Option Nat) : gv G (va_rf r) = va_rf (r.map (gad G)) := by cases r <;> rfl
theorem sim_getI {mT : Nat → aM} {M : aM} {pc index k : Nat} {P : Nat → Prop} (hd : decode M.2.1 pc = .ok (.getfield index, 3)) (hF : gF M.1.cls index k P (fun n => n = 0 ∨ n = 4)) : Sim mT M pc (oGetI P k (pc + 3)) := by
  intro G E n1 z1 d Q hM hfr hlo ls st S h o ho
  unfold oGetI oNx at ho
  split at ho
  · next c st' =>
    obtain ⟨hg, ho⟩ := gd_some ho
    cases ho
    intro _ _ K H locs Ls cells slots hR hL hq hc hs
    refine get_row hM hF hd hR hg (fun hft => ?_)
    have := K H locs Ls cells slots hR hL hq hc hs
    rwa [show gFV G (S.getD c (999, 0, [])) c k h = .int (h.1 c k) by unfold gFV; rcases hft with e | e <;> (unfold aK at e; rw [e]; rfl)]
  · cases ho
theorem sim_getL {mT : Nat → aM} {M : aM} {pc index k : Nat} {P : Nat → Prop} (hd : decode M.2.1 pc = .ok (.getfield index, 3)) (hF : gF M.1.cls index k P (fun n => n = 1)) : Sim mT M pc (oGetL P k (pc + 3)) := by
  intro G E n1 z1 d Q hM hfr hlo ls st S h o ho
  unfold oGetL oNx at ho
  split at ho
  · next c st' =>
    obtain ⟨hg, ho⟩ := gd_some ho
    cases ho
    intro _ _ K H locs Ls cells slots hR hL hq hc hs
    refine get_row hM hF hd hR hg (fun hft => ?_)
    have := K H locs Ls cells slots hR hL hq hc hs
    rwa [show gFV G (S.getD c (999, 0, [])) c k h = .long (h.2.1 c k) by unfold gFV; unfold aK at hft; rw [hft]; rfl]
  · cases ho
theorem sim_getF {mT : Nat → aM} {M : aM} {pc index k : Nat} {P : Nat → Prop} (hd : decode M.2.1 pc = .ok (.getfield index, 3)) (hF : gF M.1.cls index k P (fun n => n = 2)) : Sim mT M pc (oGetF P k (pc + 3)) := by
  intro G E n1 z1 d Q hM hfr hlo ls st S h o ho
  unfold oGetF oNx at ho
  split at ho
  · next c st' =>
    obtain ⟨hg, ho⟩ := gd_some ho
    cases ho
    intro _ _ K H locs Ls cells slots hR hL hq hc hs
    refine get_row hM hF hd hR hg (fun hft => ?_)
    have := K H locs Ls cells slots hR hL hq hc hs
    rw [List.map_cons, gv_rf] at this
    rwa [show gFV G (S.getD c (999, 0, [])) c k h = va_rf ((aF S c k).map (gad G)) by unfold gFV; unfold aK at hft; rw [hft]; rfl]
  · cases ho
theorem sim_getD {mT : Nat → aM} {M : aM} {pc index k : Nat} {P : Nat → Prop} (hd : decode M.2.1 pc = .ok (.getfield index, 3)) (hF : gF M.1.cls index k P (fun n => n = 3)) : Sim mT M pc (oGetD P k (pc + 3)) := by
  intro G E n1 z1 d Q hM hfr hlo ls st S h o ho
  unfold oGetD oNx at ho
  split at ho
  · next c st' =>
    obtain ⟨hg, ho⟩ := gd_some ho
    cases ho
    intro _ _ K H locs Ls cells slots hR hL hq hc hs
    refine get_row hM hF hd hR hg (fun hft => ?_)
    have := K H locs Ls cells slots hR hL hq hc hs
    rw [List.map_cons, gv_rf] at this
    rwa [show gFV G (S.getD c (999, 0, [])) c k h = va_rf ((h.2.2 c k).map (gad G)) by unfold gFV; unfold aK at hft; rw [hft]; rfl]
  · cases ho
theorem gFV_off {G : aG} {e : aE} {c j : Nat} {h h' : aH} (h1 : h'.1 c j = h.1 c j) (h2 : h'.2.1 c j = h.2.1 c j) (h3 : h'.2.2 c j = h.2.2 c j) : gFV G e c j h' = gFV G e c j h := by
  unfold gFV; rw [h1, h2, h3]
theorem sI_off {h : aH} {c c' k k' : Nat} {v : Int32} (hn : ¬ (c' = c ∧ k' = k)) : (sI h c k v).1 c' k' = h.1 c' k' := by unfold sI; exact if_neg hn
theorem sI_on {h : aH} {c k : Nat} {v : Int32} : (sI h c k v).1 c k = v := by unfold sI; exact if_pos ⟨rfl, rfl⟩
theorem sL_off {h : aH} {c c' k k' : Nat} {v : Int64} (hn : ¬ (c' = c ∧ k' = k)) : (sL h c k v).2.1 c' k' = h.2.1 c' k' := by unfold sL; exact if_neg hn
theorem sL_on {h : aH} {c k : Nat} {v : Int64} : (sL h c k v).2.1 c k = v := by unfold sL; exact if_pos ⟨rfl, rfl⟩
theorem sR_off {h : aH} {c c' k k' : Nat} {v : Option Nat} (hn : ¬ (c' = c ∧ k' = k)) : (sR h c k v).2.2 c' k' = h.2.2 c' k' := by unfold sR; exact if_neg hn
theorem sR_on {h : aH} {c k : Nat} {v : Option Nat} : (sR h c k v).2.2 c k = v := by unfold sR; exact if_pos ⟨rfl, rfl⟩
theorem sim_putI {mT : Nat → aM} {M : aM} {pc index k : Nat} {P : Nat → Prop} (hd : decode M.2.1 pc = .ok (.putfield index, 3)) (hF : gF M.1.cls index k P (fun n => n = 0)) : Sim mT M pc (oPutI P k (pc + 3)) := by
  intro G E n1 z1 d Q hM hfr hlo ls st S h o ho
  unfold oPutI oNx at ho
  split at ho
  · next x c st' =>
    obtain ⟨hg, ho⟩ := gd_some ho
    cases ho
    intro _ _ K H locs Ls cells slots hR hL hq hc hs
    refine put_row (h' := sI h c k x) hM hF hd hR hq hg (fun n hn => by rw [hn]; decide) (fun c' hc' j => sI_off (fun z => hc' z.1)) (fun _ _ _ => rfl) (fun _ _ _ => rfl) (fun hft => ?_) (fun j hj => gFV_off (sI_off (fun z => hj z.2)) rfl rfl) (fun ty hft hty => ?_) (fun H1 locs1 g1 g2 => K H1 locs1 Ls cells slots g1 hL g2 hc hs)
    · unfold gFV; unfold aK at hft; rw [hft]; exact congrArg Value.int sI_on
    · rw [hft] at hty
      rcases hty with ⟨z, -⟩ | ⟨-, rfl⟩ | ⟨z, -⟩ | ⟨z | z, -⟩ <;> first | (exact absurd z (by decide)) | exact ⟨rfl, rfl⟩
  · cases ho
theorem sim_putZ {mT : Nat → aM} {M : aM} {pc index k : Nat} {P : Nat → Prop} (hd : decode M.2.1 pc = .ok (.putfield index, 3)) (hF : gF M.1.cls index k P (fun n => n = 4)) : Sim mT M pc (oPutZ P k (pc + 3)) := by
  intro G E n1 z1 d Q hM hfr hlo ls st S h o ho
  unfold oPutZ oNx at ho
  split at ho
  · next x c st' =>
    obtain ⟨⟨hg, hnz⟩, ho⟩ := gd_some ho
    cases ho
    intro _ _ K H locs Ls cells slots hR hL hq hc hs
    refine put_row (h' := sI h c k x) hM hF hd hR hq hg (fun n hn => by rw [hn]; decide) (fun c' hc' j => sI_off (fun z => hc' z.1)) (fun _ _ _ => rfl) (fun _ _ _ => rfl) (fun hft => ?_) (fun j hj => gFV_off (sI_off (fun z => hj z.2)) rfl rfl) (fun ty hft hty => ?_) (fun H1 locs1 g1 g2 => K H1 locs1 Ls cells slots g1 hL g2 hc hs)
    · unfold gFV; unfold aK at hft; rw [hft]; exact congrArg Value.int sI_on
    · rw [hft] at hty
      rcases hty with ⟨z, -⟩ | ⟨z, -⟩ | ⟨-, rfl⟩ | ⟨z | z, -⟩ <;> first | (exact absurd z (by decide)) | skip
      rcases hnz with rfl | rfl
      · exact ⟨(by decide : narrow .boolean (.int 0) = .int 0), (by decide : fits .boolean (.int 0) = true)⟩
      · exact ⟨(by decide : narrow .boolean (.int 1) = .int 1), (by decide : fits .boolean (.int 1) = true)⟩
  · cases ho
theorem sim_putL {mT : Nat → aM} {M : aM} {pc index k : Nat} {P : Nat → Prop} (hd : decode M.2.1 pc = .ok (.putfield index, 3)) (hF : gF M.1.cls index k P (fun n => n = 1)) : Sim mT M pc (oPutL P k (pc + 3)) := by
  intro G E n1 z1 d Q hM hfr hlo ls st S h o ho
  unfold oPutL oNx at ho
  split at ho
  · next x c st' =>
    obtain ⟨hg, ho⟩ := gd_some ho
    cases ho
    intro _ _ K H locs Ls cells slots hR hL hq hc hs
    refine put_row (h' := sL h c k x) hM hF hd hR hq hg (fun n hn => by rw [hn]; decide) (fun _ _ _ => rfl) (fun c' hc' j => sL_off (fun z => hc' z.1)) (fun _ _ _ => rfl) (fun hft => ?_) (fun j hj => gFV_off rfl (sL_off (fun z => hj z.2)) rfl) (fun ty hft hty => ?_) (fun H1 locs1 g1 g2 => K H1 locs1 Ls cells slots g1 hL g2 hc hs)
    · unfold gFV; unfold aK at hft; rw [hft]; exact congrArg Value.long sL_on
    · rw [hft] at hty
      rcases hty with ⟨-, rfl⟩ | ⟨z, -⟩ | ⟨z, -⟩ | ⟨z | z, -⟩ <;> first | (exact absurd z (by decide)) | exact ⟨rfl, rfl⟩
  · cases ho
theorem sim_putD {mT : Nat → aM} {M : aM} {pc index k : Nat} {P : Nat → Prop} (hd : decode M.2.1 pc = .ok (.putfield index, 3)) (hF : gF M.1.cls index k P (fun n => n = 3)) : Sim mT M pc (oPutD P k (pc + 3)) := by
  intro G E n1 z1 d Q hM hfr hlo ls st S h o ho
  unfold oPutD oNx at ho
  split at ho
  · next x c st' =>
    obtain ⟨hg, ho⟩ := gd_some ho
    cases ho
    intro _ _ K H locs Ls cells slots hR hL hq hc hs
    refine put_row (h' := sR h c k (some x)) hM hF hd hR hq hg (fun n hn => by rw [hn]; decide) (fun _ _ _ => rfl) (fun _ _ _ => rfl) (fun c' hc' j => sR_off (fun z => hc' z.1)) (fun hft => ?_) (fun j hj => gFV_off rfl rfl (sR_off (fun z => hj z.2))) (fun ty hft hty => ?_) (fun H1 locs1 g1 g2 => K H1 locs1 Ls cells slots g1 hL g2 hc hs)
    · unfold gFV; unfold aK at hft; rw [hft]; show va_rf (((sR h c k (some x)).2.2 c k).map (gad G)) = _; rw [sR_on]; rfl
    · rw [hft] at hty
      rcases hty with ⟨z, -⟩ | ⟨z, -⟩ | ⟨z, -⟩ | ⟨z | z, hty⟩ <;> first | (exact absurd z (by decide)) | skip
      rcases hty with ⟨o, rfl⟩ | ⟨o, rfl⟩ <;> exact ⟨rfl, rfl⟩
  · cases ho
