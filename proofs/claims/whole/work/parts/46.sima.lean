/-! arrays -/
theorem arr_at {G : aG} {S : aS} {h : aH} {H : Heap} {c t : Nat} (hR : gR G S h H) (hk : aK S c = 100 + t) (ht : t < 3) : 8 ≤ c ∧ c < S.length ∧ (gW G S h)[c - 8]? = some (gad G c, .inl (G.2.1 t, aL S c, .inl (h.1 c))) ∧ ∀ h' : aH, gX G h' c (S.getD c (999, 0, [])) = .inl (G.2.1 t, aL S c, .inl (h'.1 c)) := by
  obtain ⟨h8, hc⟩ := aK_new hR (show aK S c < 200 by omega)
  have key : ∀ h' : aH, gX G h' c (S.getD c (999, 0, [])) = .inl (G.2.1 t, aL S c, .inl (h'.1 c)) := by
    intro h'
    have e : (S.getD c (999, 0, [])).1 = 100 + t := hk
    unfold gX
    rw [if_neg (by omega), if_neg (by omega), if_neg (by omega), e, show 100 + t - 100 = t by omega]
    rfl
  exact ⟨h8, hc, by rw [gW_at h8 hc, key], key⟩
theorem arrL_at {G : aG} {S : aS} {h : aH} {H : Heap} {c : Nat} (hR : gR G S h H) (hk : aK S c = 103) : 8 ≤ c ∧ c < S.length ∧ (gW G S h)[c - 8]? = some (gad G c, .inl (G.2.1 3, aL S c, .inr (.inl (h.2.1 c)))) ∧ ∀ h' : aH, gX G h' c (S.getD c (999, 0, [])) = .inl (G.2.1 3, aL S c, .inr (.inl (h'.2.1 c))) := by
  obtain ⟨h8, hc⟩ := aK_new hR (show aK S c < 200 by omega)
  have key : ∀ h' : aH, gX G h' c (S.getD c (999, 0, [])) = .inl (G.2.1 3, aL S c, .inr (.inl (h'.2.1 c))) := by
    intro h'
    have e : (S.getD c (999, 0, [])).1 = 103 := hk
    unfold gX
    rw [if_neg (by omega), if_pos e]
    rfl
  exact ⟨h8, hc, by rw [gW_at h8 hc, key], key⟩
theorem arrA_at {G : aG} {S : aS} {h : aH} {H : Heap} {c t : Nat} (hR : gR G S h H) (hk : aK S c = 100 + t) (ht : t = 4 ∨ t = 5) : 8 ≤ c ∧ c < S.length ∧ (gW G S h)[c - 8]? = some (gad G c, .inl (G.2.1 t, aL S c, .inr (.inr (.inr (.inr (fun j => (aF S c j).map (gad G))))))) := by
  obtain ⟨h8, hc⟩ := aK_new hR (show aK S c < 200 by omega)
  refine ⟨h8, hc, ?_⟩
  rw [gW_at h8 hc]
  have e : (S.getD c (999, 0, [])).1 = 100 + t := hk
  unfold gX
  rw [if_neg (by omega), if_neg (by omega), if_pos (by omega), e, show 100 + t - 100 = t by omega]
  rfl
theorem old_at {G : aG} {S : aS} {h : aH} {H : Heap} {c : Nat} (hR : gR G S h H) (hk : 200 ≤ aK S c) (hk2 : aK S c < 999) : c < 8 ∧ S.getD c (999, 0, []) = (oldS G.2.2.2.1).getD c (999, 0, []) := by
  have hlt : c < S.length := by
    refine Nat.lt_of_not_le (fun q => ?_)
    have e : aK S c = 999 := by unfold aK; rw [List.getD_eq_getElem?_getD, List.getElem?_eq_none q]; rfl
    omega
  have h8 : c < 8 := by
    refine Nat.lt_of_not_le (fun q => ?_)
    have := (hR.2.2.1 c q hlt).2
    omega
  exact ⟨h8, aK_old hR h8⟩
/-- an old cell's kind says which it is -/
theorem old_int {G : aG} {S : aS} {h : aH} {H : Heap} {c : Nat} (hR : gR G S h H) (hk : aK S c = 200) : (c = 0 ∧ aL S c = G.2.2.2.1) ∨ (c = 1 ∧ aL S c = 4) := by
  obtain ⟨h8, e⟩ := old_at (c := c) hR (by omega) (by omega)
  have hk2 : ((oldS G.2.2.2.1).getD c (999, 0, [])).1 = 200 := by unfold aK at hk; rw [e] at hk; exact hk
  have hl : aL S c = ((oldS G.2.2.2.1).getD c (999, 0, [])).2.1 := by unfold aL; rw [e]
  rcases (show c = 0 ∨ c = 1 ∨ c = 2 ∨ c = 3 ∨ c = 4 ∨ c = 5 ∨ c = 6 ∨ c = 7 by omega) with r | r | r | r | r | r | r | r <;> subst r <;> first | (left; exact ⟨rfl, hl⟩) | (right; exact ⟨rfl, hl⟩) | (exact absurd hk2 (by simp [oldS]))
theorem old_byte {G : aG} {S : aS} {h : aH} {H : Heap} {c : Nat} (hR : gR G S h H) (hk : aK S c = 202) : ∃ i, i < 3 ∧ c = 5 + i ∧ aL S c = lenF.getD i 0 := by
  obtain ⟨h8, e⟩ := old_at (c := c) hR (by omega) (by omega)
  have hk2 : ((oldS G.2.2.2.1).getD c (999, 0, [])).1 = 202 := by unfold aK at hk; rw [e] at hk; exact hk
  have hl : aL S c = ((oldS G.2.2.2.1).getD c (999, 0, [])).2.1 := by unfold aL; rw [e]
  rcases (show c = 0 ∨ c = 1 ∨ c = 2 ∨ c = 3 ∨ c = 4 ∨ c = 5 ∨ c = 6 ∨ c = 7 by omega) with r | r | r | r | r | r | r | r <;> subst r <;> first | exact ⟨0, by decide, rfl, hl⟩ | exact ⟨1, by decide, rfl, hl⟩ | exact ⟨2, by decide, rfl, hl⟩ | (exact absurd hk2 (by simp [oldS]))
theorem old_str {G : aG} {S : aS} {h : aH} {H : Heap} {c : Nat} (hR : gR G S h H) (hk : aK S c = 201) : ∃ i, i < 3 ∧ c = 2 + i := by
  obtain ⟨h8, e⟩ := old_at (c := c) hR (by omega) (by omega)
  have hk2 : ((oldS G.2.2.2.1).getD c (999, 0, [])).1 = 201 := by unfold aK at hk; rw [e] at hk; exact hk
  rcases (show c = 0 ∨ c = 1 ∨ c = 2 ∨ c = 3 ∨ c = 4 ∨ c = 5 ∨ c = 6 ∨ c = 7 by omega) with r | r | r | r | r | r | r | r <;> subst r <;> first | exact ⟨0, by decide, rfl⟩ | exact ⟨1, by decide, rfl⟩ | exact ⟨2, by decide, rfl⟩ | (exact absurd hk2 (by simp [oldS]))
theorem kept0 {G : aG} {E : aEv} {M : aM} {n1 : Nat} (hM : MC G E M n1) : ∀ a : Nat, a < G.2.2.2.2.2.2.size → ¬ gA G a → (eS E).heap[a]? = G.2.2.2.2.2.2[a]? := by
  obtain ⟨hx, hb, hml, hown, hts, hC, hsz, hn1, hold, hnm⟩ := hM
  intro a h1 h2
  exact hold a (Nat.not_le.mp h2)
theorem inB_nat {i : Int32} {n : Nat} (h : inB i n) : i.toNatClampNeg < n := by
  obtain ⟨h1, h2⟩ := h
  show i.toInt.toNat < n
  omega
theorem sim_iaload {mT : Nat → aM} {M : aM} {pc : Nat} (hd : decode M.2.1 pc = .ok (.iaload, 1)) : Sim mT M pc (oALdI (pc + 1)) := by
  intro G E n1 z1 d Q hM hfr hlo ls st S h o ho
  unfold oALdI oNx at ho
  split at ho
  · next i c st' =>
    obtain ⟨hg, ho⟩ := gd_some ho
    obtain ⟨hi, ho⟩ := gd_some ho
    cases ho
    intro _ _ K H locs Ls cells slots hR hL hq hc hs
    have K := K H locs Ls cells slots hR hL hq hc hs
    have hM0 := hM
    obtain ⟨hx, hb, hml, hown, hts, hC, hsz, hn1, hold, hnm⟩ := hM
    rcases hg with hg | hg
    · obtain ⟨h8, hcl, hat, -⟩ := arr_at (t := 0) hR hg (by decide)
      exact va_iald hx hb hC.1 hR.1 (c - 8) 0 hat rfl (inB_iff.mp hi) hd K
    · rcases old_int hR hg with ⟨rfl, hl⟩ | ⟨rfl, hl⟩
      · rw [hl] at hi
        have e := hR.2.2.2.2.1 _ (inB_nat hi)
        rw [show (Value.int (h.1 0 i.toNatClampNeg) :: st').map (gv G) = Value.int (h.1 0 i.toNatClampNeg) :: st'.map (gv G) from rfl, e] at K
        have hX : va_X (gad G 0) G.2.2.2.1 G.2.2.2.2.2.1 (eS E) (eS E).heap := hC.2.1.kept (hold _ hC.2.2.2.2.2.2.2.2.2.1)
        exact va_sld hx hb hX (by have := hC.2.2.2.2.2.2.2.2.2.1; have := hR.len; omega) (fun z => absurd z (Nat.not_le.mpr hC.2.2.2.2.2.2.2.2.2.1)) (vaSs hM0 hR hq hc) (inB_iff.mp hi) hd K
      · rw [hl] at hi
        have e := hR.2.2.2.2.2.1 _ (inB_nat hi)
        rw [show (Value.int (h.1 1 i.toNatClampNeg) :: st').map (gv G) = Value.int (h.1 1 i.toNatClampNeg) :: st'.map (gv G) from rfl, e] at K
        exact va_ti hx hb (hC.2.2.2.1.kept (kept0 hM0)) (vaSs hM0 hR hq hc) (inB_iff.mp hi) rfl hd K
  · cases ho
theorem sim_baload {mT : Nat → aM} {M : aM} {pc : Nat} (hd : decode M.2.1 pc = .ok (.baload, 1)) : Sim mT M pc (oALdB (pc + 1)) := by
  intro G E n1 z1 d Q hM hfr hlo ls st S h o ho
  unfold oALdB oNx at ho
  split at ho
  · next i c st' =>
    obtain ⟨hg, ho⟩ := gd_some ho
    obtain ⟨hi, ho⟩ := gd_some ho
    cases ho
    intro _ _ K H locs Ls cells slots hR hL hq hc hs
    have K := K H locs Ls cells slots hR hL hq hc hs
    have hM0 := hM
    obtain ⟨hx, hb, hml, hown, hts, hC, hsz, hn1, hold, hnm⟩ := hM
    rcases hg with hg | hg | hg
    · obtain ⟨h8, hcl, hat, -⟩ := arr_at (t := 1) hR hg (by decide)
      exact va_bald hx hb hC.1 hR.1 (c - 8) 1 hat rfl (inB_iff.mp hi) hd K
    · obtain ⟨h8, hcl, hat, -⟩ := arr_at (t := 2) hR hg (by decide)
      exact va_zald hx hb hC.1 hR.1 (c - 8) 2 hat rfl (inB_iff.mp hi) hd K
    · obtain ⟨i0, hi0, rfl, hl⟩ := old_byte hR hg
      rw [hl] at hi
      have e := hR.2.2.2.2.2.2 i0 hi0 _ (inB_nat hi)
      rw [show (Value.int (h.1 (5 + i0) i.toNatClampNeg) :: st').map (gv G) = Value.int (h.1 (5 + i0) i.toNatClampNeg) :: st'.map (gv G) from rfl, e] at K
      exact va_tb hx hb ((hC.2.2.2.2.1.1 i0 hi0).2.2.2.kept (kept0 hM0)) (vaSs hM0 hR hq hc) (inB_iff.mp hi) rfl hd K
  · cases ho
theorem sim_laload {mT : Nat → aM} {M : aM} {pc : Nat} (hd : decode M.2.1 pc = .ok (.laload, 1)) : Sim mT M pc (oALdL (pc + 1)) := by
  intro G E n1 z1 d Q hM hfr hlo ls st S h o ho
  unfold oALdL oNx at ho
  split at ho
  · next i c st' =>
    obtain ⟨hg, ho⟩ := gd_some ho
    obtain ⟨hi, ho⟩ := gd_some ho
    cases ho
    intro _ _ K H locs Ls cells slots hR hL hq hc hs
    obtain ⟨hx, hb, hml, hown, hts, hC, hsz, hn1, hold, hnm⟩ := hM
    obtain ⟨h8, hcl, hat, -⟩ := arrL_at hR hg
    exact va_lald hx hb hC.1 hR.1 (c - 8) 3 hat rfl (inB_iff.mp hi) hd (K H locs Ls cells slots hR hL hq hc hs)
  · cases ho
theorem sim_aaload {mT : Nat → aM} {M : aM} {pc : Nat} (hd : decode M.2.1 pc = .ok (.aaload, 1)) : Sim mT M pc (oALdA (pc + 1)) := by
  intro G E n1 z1 d Q hM hfr hlo ls st S h o ho
  unfold oALdA oNx at ho
  split at ho
  · next i c st' =>
    obtain ⟨hg, ho⟩ := gd_some ho
    obtain ⟨hi, ho⟩ := gd_some ho
    cases ho
    intro _ _ K H locs Ls cells slots hR hL hq hc hs
    have K := K H locs Ls cells slots hR hL hq hc hs
    rw [List.map_cons, gv_rf] at K
    obtain ⟨hx, hb, hml, hown, hts, hC, hsz, hn1, hold, hnm⟩ := hM
    rcases hg with hg | hg
    · obtain ⟨h8, hcl, hat⟩ := arrA_at (t := 4) hR hg (Or.inl rfl)
      exact va_aldq hx hb hC.1 hR.1 (c - 8) 4 hat rfl (inB_iff.mp hi) hd K
    · obtain ⟨h8, hcl, hat⟩ := arrA_at (t := 5) hR hg (Or.inr rfl)
      exact va_aldq hx hb hC.1 hR.1 (c - 8) 5 hat rfl (inB_iff.mp hi) hd K
  · cases ho
theorem sI_row {h : aH} {c k : Nat} {v : Int32} : (sI h c k v).1 c = upd (h.1 c) k v := by
  funext j
  unfold sI upd
  simp
theorem sL_row {h : aH} {c k : Nat} {v : Int64} : (sL h c k v).2.1 c = vp_updL (h.2.1 c) k v := by
  funext j
  unfold sL vp_updL
  simp
theorem sim_iastore {mT : Nat → aM} {M : aM} {pc : Nat} (hd : decode M.2.1 pc = .ok (.iastore, 1)) : Sim mT M pc (oAStI (pc + 1)) := by
  intro G E n1 z1 d Q hM hfr hlo ls st S h o ho
  unfold oAStI oNx at ho
  split at ho
  · next x i c st' =>
    obtain ⟨hg, ho⟩ := gd_some ho
    obtain ⟨hi, ho⟩ := gd_some ho
    cases ho
    intro _ _ K H locs Ls cells slots hR hL hq hc hs
    obtain ⟨hx, hb, hml, hown, hts, hC, hsz, hn1, hold, hnm⟩ := hM
    obtain ⟨h8, hcl, hat, hgx⟩ := arr_at (t := 0) hR hg (by decide)
    refine va_iast hx hb hC.1 hR.1 gW_D (vaS0 hq) (c - 8) 0 hat rfl (inB_iff.mp hi) hd (fun H1 locs1 hP1 hD1 hS1 => ?_)
    obtain ⟨g1, g2⟩ := hR.upd (h' := sI h c i.toNatClampNeg x) hC h8 hcl (fun c' hc' j => sI_off (fun z => hc' z.1)) (fun _ _ _ => rfl) (fun _ _ _ => rfl) (by rw [hgx, sI_row]) hP1 hS1
    exact K H1 locs1 Ls cells slots g1 hL g2 hc hs
  · cases ho
theorem sim_bastore {mT : Nat → aM} {M : aM} {pc : Nat} (hd : decode M.2.1 pc = .ok (.bastore, 1)) : Sim mT M pc (oAStB (pc + 1)) := by
  intro G E n1 z1 d Q hM hfr hlo ls st S h o ho
  unfold oAStB oNx at ho
  split at ho
  · next x i c st' =>
    obtain ⟨hg, ho⟩ := gd_some ho
    obtain ⟨hi, ho⟩ := gd_some ho
    cases ho
    intro _ _ K H locs Ls cells slots hR hL hq hc hs
    obtain ⟨hx, hb, hml, hown, hts, hC, hsz, hn1, hold, hnm⟩ := hM
    rcases hg with hg | hg
    · obtain ⟨h8, hcl, hat, hgx⟩ := arr_at (t := 1) hR hg (by decide)
      rw [br_pos hg] at K
      refine va_bast hx hb hC.1 hR.1 gW_D (vaS0 hq) (c - 8) 1 hat rfl (inB_iff.mp hi) hd (fun H1 locs1 hP1 hD1 hS1 => ?_)
      obtain ⟨g1, g2⟩ := hR.upd (h' := sI h c i.toNatClampNeg (vp_nar .byte x)) hC h8 hcl (fun c' hc' j => sI_off (fun z => hc' z.1)) (fun _ _ _ => rfl) (fun _ _ _ => rfl) (by rw [hgx, sI_row]) hP1 hS1
      exact K H1 locs1 Ls cells slots g1 hL g2 hc hs
    · obtain ⟨h8, hcl, hat, hgx⟩ := arr_at (t := 2) hR hg (by decide)
      rw [br_neg (by omega)] at K
      refine va_zast hx hb hC.1 hR.1 gW_D (vaS0 hq) (c - 8) 2 hat rfl (inB_iff.mp hi) hd (fun H1 locs1 hP1 hD1 hS1 => ?_)
      obtain ⟨g1, g2⟩ := hR.upd (h' := sI h c i.toNatClampNeg (vp_nar .boolean x)) hC h8 hcl (fun c' hc' j => sI_off (fun z => hc' z.1)) (fun _ _ _ => rfl) (fun _ _ _ => rfl) (by rw [hgx, sI_row]) hP1 hS1
      exact K H1 locs1 Ls cells slots g1 hL g2 hc hs
  · cases ho
theorem sim_lastore {mT : Nat → aM} {M : aM} {pc : Nat} (hd : decode M.2.1 pc = .ok (.lastore, 1)) : Sim mT M pc (oAStL (pc + 1)) := by
  intro G E n1 z1 d Q hM hfr hlo ls st S h o ho
  unfold oAStL oNx at ho
  split at ho
  · next x i c st' =>
    obtain ⟨hg, ho⟩ := gd_some ho
    obtain ⟨hi, ho⟩ := gd_some ho
    cases ho
    intro _ _ K H locs Ls cells slots hR hL hq hc hs
    obtain ⟨hx, hb, hml, hown, hts, hC, hsz, hn1, hold, hnm⟩ := hM
    obtain ⟨h8, hcl, hat, hgx⟩ := arrL_at hR hg
    refine va_last hx hb hC.1 hR.1 gW_D (vaS0 hq) (c - 8) 3 hat rfl (inB_iff.mp hi) hd (fun H1 locs1 hP1 hD1 hS1 => ?_)
    obtain ⟨g1, g2⟩ := hR.upd (h' := sL h c i.toNatClampNeg x) hC h8 hcl (fun _ _ _ => rfl) (fun c' hc' j => sL_off (fun z => hc' z.1)) (fun _ _ _ => rfl) (by rw [hgx, sL_row]) hP1 hS1
    exact K H1 locs1 Ls cells slots g1 hL g2 hc hs
  · cases ho
theorem sim_arraylength {mT : Nat → aM} {M : aM} {pc : Nat} (hd : decode M.2.1 pc = .ok (.arraylength, 1)) : Sim mT M pc (oLen (pc + 1)) := by
  intro G E n1 z1 d Q hM hfr hlo ls st S h o ho
  unfold oLen oNx at ho
  split at ho
  · next c st' =>
    obtain ⟨⟨hg1, hg2, hg3⟩, ho⟩ := gd_some ho
    cases ho
    intro _ _ K H locs Ls cells slots hR hL hq hc hs
    have K := K H locs Ls cells slots hR hL hq hc hs
    have hM0 := hM
    obtain ⟨hx, hb, hml, hown, hts, hC, hsz, hn1, hold, hnm⟩ := hM
    by_cases h200 : aK S c < 200
    · obtain ⟨h8, hcl⟩ := aK_new hR h200
      have hk := (hR.2.2.1 c h8 hcl).2
      rcases (show aK S c = 103 ∨ (aK S c = 100 + 4 ∨ aK S c = 100 + 5) ∨ (aK S c = 100 + 0 ∨ aK S c = 100 + 1 ∨ aK S c = 100 + 2) by omega) with e | (e | e) | (e | e | e)
      · exact va_alen hx hb hC.1 hR.1 (c - 8) 3 (arrL_at hR e).2.2.1 rfl rfl hd K
      · exact va_alen hx hb hC.1 hR.1 (c - 8) 4 (arrA_at hR e (Or.inl rfl)).2.2 rfl rfl hd K
      · exact va_alen hx hb hC.1 hR.1 (c - 8) 5 (arrA_at hR e (Or.inr rfl)).2.2 rfl rfl hd K
      · exact va_alen hx hb hC.1 hR.1 (c - 8) 0 (arr_at hR e (by decide)).2.2.1 rfl rfl hd K
      · exact va_alen hx hb hC.1 hR.1 (c - 8) 1 (arr_at hR e (by decide)).2.2.1 rfl rfl hd K
      · exact va_alen hx hb hC.1 hR.1 (c - 8) 2 (arr_at hR e (by decide)).2.2.1 rfl rfl hd K
    · rcases (show aK S c = 200 ∨ aK S c = 202 by omega) with e | e
      · rcases old_int hR e with ⟨rfl, hl⟩ | ⟨rfl, hl⟩
        · rw [hl] at K
          have hX : va_X (gad G 0) G.2.2.2.1 G.2.2.2.2.2.1 (eS E) (eS E).heap := hC.2.1.kept (hold _ hC.2.2.2.2.2.2.2.2.2.1)
          exact va_slen hx hb hX (by have := hC.2.2.2.2.2.2.2.2.2.1; have := hR.len; omega) (fun z => absurd z (Nat.not_le.mpr hC.2.2.2.2.2.2.2.2.2.1)) (vaSs hM0 hR hq hc) hd K
        · rw [hl] at K
          exact va_tlen hx hb (hC.2.2.2.1.kept (kept0 hM0)) (vaSs hM0 hR hq hc) rfl hd K
      · obtain ⟨i0, hi0, rfl, hl⟩ := old_byte hR e
        rw [hl] at K
        exact va_tlen hx hb ((hC.2.2.2.2.1.1 i0 hi0).2.2.2.kept (kept0 hM0)) (vaSs hM0 hR hq hc) rfl hd K
  · cases ho
/-! text constants, statics -/
theorem sim_ldcS {mT : Nat → aM} {M : aM} {pc i k : Nat} (hd : decode M.2.1 pc = .ok (.ldc i, 2)) (hcl : M.1.cls = "RopeRound$Reader") (hw : (i = 57 ∧ k = 2) ∨ (i = 73 ∧ k = 3) ∨ (i = 78 ∧ k = 4)) : Sim mT M pc (oPush (.ref k) (pc + 2)) := by
  intro G E n1 z1 d Q hM hfr hlo ls st S h o ho
  unfold oPush oNx at ho
  cases ho
  intro _ _ K H locs Ls cells slots hR hL hq hc hs
  have K := K H locs Ls cells slots hR hL hq hc hs
  obtain ⟨hx, hb, hml, hown, hts, hC, hsz, hn1, hold, hnm⟩ := hM
  rw [hcl] at hown
  rcases hw with ⟨rfl, rfl⟩ | ⟨rfl, rfl⟩ | ⟨rfl, rfl⟩
  · exact va_ldcS hx hb hown hC.2.2.2.2.2.1.1 hd K
  · exact va_ldcS hx hb hown hC.2.2.2.2.2.1.2.1 hd K
  · exact va_ldcS hx hb hown hC.2.2.2.2.2.1.2.2 hd K
theorem sim_strides {mT : Nat → aM} {M : aM} {pc i : Nat} {host : String} (hd : decode M.2.1 pc = .ok (.getstatic i, 3)) (hw : Cond.fieldLinkNest M.1.cls i "RopeRound" "STRIDES" "[I" host ∈ tb) : Sim mT M pc (oPush (.ref 1) (pc + 3)) := by
  intro G E n1 z1 d Q hM hfr hlo ls st S h o ho
  unfold oPush oNx at ho
  cases ho
  intro _ _ K H locs Ls cells slots hR hL hq hc hs
  have K := K H locs Ls cells slots hR hL hq hc hs
  have hM0 := hM
  obtain ⟨hx, hb, hml, hown, hts, hC, hsz, hn1, hold, hnm⟩ := hM
  exact va_getsN hx hb (hC.2.2.1.kept (kept0 hM0)) (vaSs hM0 hR hq hc) hown (va_Nw.use rfl (hC.2.2.2.2.2.2.2.1 _ hw rfl)) (fun _ h => h) hd K
theorem sim_compact {mT : Nat → aM} {M : aM} {pc i : Nat} (hd : decode M.2.1 pc = .ok (.getstatic i, 3)) (hw : Cond.fieldLink M.1.cls i "java/lang/String" "COMPACT_STRINGS" "Z" ∈ tg) : Sim mT M pc (oPush (.int 1) (pc + 3)) := by
  intro G E n1 z1 d Q hM hfr hlo ls st S h o ho
  unfold oPush oNx at ho
  cases ho
  intro _ _ K H locs Ls cells slots hR hL hq hc hs
  have K := K H locs Ls cells slots hR hL hq hc hs
  have hM0 := hM
  obtain ⟨hx, hb, hml, hown, hts, hC, hsz, hn1, hold, hnm⟩ := hM
  exact va_gets hx hb (hC.2.2.2.2.2.2.1.kept (kept0 hM0)) (vaSs hM0 hR hq hc) hown (hts _ hw) (fun _ h => h) hd K
theorem sim_strC {mT : Nat → aM} {M : aM} {pc i : Nat} (hd : decode M.2.1 pc = .ok (.getfield i, 3)) (hw : Cond.fieldLink M.1.cls i "java/lang/String" "coder" "B" ∈ tg) : Sim mT M pc (oStrC (pc + 3)) := by
  intro G E n1 z1 d Q hM hfr hlo ls st S h o ho
  unfold oStrC oNx at ho
  split at ho
  · next c st' =>
    obtain ⟨hg, ho⟩ := gd_some ho
    cases ho
    intro _ _ K H locs Ls cells slots hR hL hq hc hs
    have K := K H locs Ls cells slots hR hL hq hc hs
    have hM0 := hM
    obtain ⟨hx, hb, hml, hown, hts, hC, hsz, hn1, hold, hnm⟩ := hM
    obtain ⟨i0, hi0, rfl⟩ := old_str hR hg
    exact vk_getf hx hb ((hC.2.2.2.2.1.1 i0 hi0).2.1.kept (kept0 hM0)) (vaSs hM0 hR hq hc) hown (hts _ hw) (fun _ h => h) hd K
  · cases ho
theorem sim_strV {mT : Nat → aM} {M : aM} {pc i : Nat} (hd : decode M.2.1 pc = .ok (.getfield i, 3)) (hw : Cond.fieldLink M.1.cls i "java/lang/String" "value" "[B" ∈ tg) : Sim mT M pc (oStrV (pc + 3)) := by
  intro G E n1 z1 d Q hM hfr hlo ls st S h o ho
  unfold oStrV oNx at ho
  split at ho
  · next c st' =>
    obtain ⟨hg, ho⟩ := gd_some ho
    cases ho
    intro _ _ K H locs Ls cells slots hR hL hq hc hs
    have K := K H locs Ls cells slots hR hL hq hc hs
    have hM0 := hM
    obtain ⟨hx, hb, hml, hown, hts, hC, hsz, hn1, hold, hnm⟩ := hM
    obtain ⟨i0, hi0, rfl⟩ := old_str hR hg
    rw [show 2 + i0 + 3 = 5 + i0 by omega] at K
    exact vk_getf hx hb ((hC.2.2.2.2.1.1 i0 hi0).2.2.1.kept (kept0 hM0)) (vaSs hM0 hR hq hc) hown (hts _ hw) (fun _ h => h) hd K
  · cases ho
theorem sim_sioobe {mT : Nat → aM} {M : aM} {pc i : Nat} (hd : decode M.2.1 pc = .ok (.getstatic i, 3)) (hw : Cond.fieldLink M.1.cls i "jdk/internal/util/Preconditions" "SIOOBE_FORMATTER" "Ljava/util/function/BiFunction;" ∈ tg) : Sim mT M pc (oPush (.retAddr 0) (pc + 3)) := by
  intro G E n1 z1 d Q hM hfr hlo ls st S h o ho
  unfold oPush oNx at ho
  cases ho
  intro _ _ K H locs Ls cells slots hR hL hq hc hs
  have K := K H locs Ls cells slots hR hL hq hc hs
  have hM0 := hM
  obtain ⟨hx, hb, hml, hown, hts, hC, hsz, hn1, hold, hnm⟩ := hM
  exact va_gets hx hb (hC.2.2.2.2.2.2.2.2.2.2.2.kept (kept0 hM0)) (vaSs hM0 hR hq hc) hown (hts _ hw) (fun _ h => h) hd K
