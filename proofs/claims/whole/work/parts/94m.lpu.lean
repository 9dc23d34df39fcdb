/-! grounds on which the same ways lead, take and shut -/
def FEq (g g' : Nat → Int32) : Prop := lead g' = lead g ∧ fE g' = fE g ∧ fS g' = fS g ∧ rgd g' = rgd g ∧ qWor g' = qWor g
set_option maxRecDepth 100000 in
set_option maxHeartbeats 400000 in
theorem FEq_of {g g' : Nat → Int32} (B : BEq g g') (hY : ∀ m, m < qM g → qY g' m = qY g m) : FEq g g' := by
  obtain ⟨r1, r2, r3, -⟩ := rings_eq B hY
  exact ⟨B.lead, r2, r3, r1, B.wor⟩
set_option maxRecDepth 100000 in
set_option maxHeartbeats 400000 in
theorem FEq.tkE {g g' : Nat → Int32} (F : FEq g g') : tk g' = tk g := by
  funext c w
  show (if (if w % 2 = 1 then fE g' (if w = 1 then c else c - 1) else fS g' (if w = 2 then c else c - 8)) = true then 0 else 1) = (if (if w % 2 = 1 then fE g (if w = 1 then c else c - 1) else fS g (if w = 2 then c else c - 8)) = true then 0 else 1)
  rw [F.2.1, F.2.2.1]
set_option maxRecDepth 100000 in
set_option maxHeartbeats 400000 in
theorem FEq.rpE {g g' : Nat → Int32} (F : FEq g g') : ∀ (ws : List Nat) (c : Nat), rp g' c ws = rp g c ws
  | [], _ => rfl
  | w :: ws, c => by rw [rp, rp, F.tkE, F.rpE ws]
set_option maxRecDepth 100000 in
set_option maxHeartbeats 400000 in
theorem FEq.clrE {g g' : Nat → Int32} (F : FEq g g') (o : Nat) (r : List Nat) : clr g' o r = clr g o r := by
  show (∀ b, b < 64 → ins o r b = true → rgd g' b = false) = (∀ b, b < 64 → ins o r b = true → rgd g b = false)
  rw [F.2.2.2.1]
set_option maxRecDepth 100000 in
set_option maxHeartbeats 400000 in
theorem FEq.dfsE {g g' : Nat → Int32} (F : FEq g g') (o : Nat) : ∀ (n c : Nat) (bn ws : List Nat), dfs g' o n c bn ws = dfs g o n c bn ws := by
  intro n
  induction n with
  | zero => intro c bn ws; rfl
  | succ n ih =>
    intro c bn ws
    rw [dfs_dFr, dfs_dFr]
    have e : ∀ v, dF1 g' o n c bn ws v = dF1 g o n c bn ws v := fun v => by
      unfold dF1
      rw [F.1, F.clrE, ih]
    simp only [dFr, e]
set_option maxRecDepth 100000 in
set_option maxHeartbeats 400000 in
theorem FEq.dfrE {g g' : Nat → Int32} (F : FEq g g') (o l : Nat) : ∀ (n c : Nat) (bn ws : List Nat) (t : Nat), dfr g' o l n c bn ws t = dfr g o l n c bn ws t := by
  intro n
  induction n with
  | zero => intro c bn ws t; rfl
  | succ n ih =>
    intro c bn ws t
    rw [dfr_rFr, dfr_rFr]
    have e : ∀ v, rF1 g' o l n c bn ws t v = rF1 g o l n c bn ws t v := fun v => by
      unfold rF1
      rw [F.1, F.tkE, F.clrE, ih]
    simp only [rFr, e]
set_option maxRecDepth 100000 in
set_option maxHeartbeats 400000 in
theorem FEq.rFrE {g g' : Nat → Int32} (F : FEq g g') (o l n c : Nat) (bn ws : List Nat) (t : Nat) : ∀ k v, rFr g' o l n c bn ws t k v = rFr g o l n c bn ws t k v
  | 0, _ => rfl
  | k + 1, v => by
    have e : rF1 g' o l n c bn ws t v = rF1 g o l n c bn ws t v := by
      unfold rF1
      rw [F.1, F.tkE, F.clrE, F.dfrE]
    show rF1 g' o l n c bn ws t v ++ _ = rF1 g o l n c bn ws t v ++ _
    rw [e, F.rFrE o l n c bn ws t k]
set_option maxRecDepth 100000 in
set_option maxHeartbeats 400000 in
theorem FEq.levE {g g' : Nat → Int32} (F : FEq g g') (o l most : Nat) (ws : List Nat) (v : Nat) : lev g' o l most ws v = lev g o l most ws v := by
  show rFr g' _ _ _ _ _ _ _ _ _ = rFr g _ _ _ _ _ _ _ _ _
  rw [F.rFrE, F.rpE]
set_option maxRecDepth 100000 in
set_option maxHeartbeats 400000 in
theorem FEq.remE {g g' : Nat → Int32} (F : FEq g g') (o l most : Nat) : ∀ (rs : List Nat) (v : Nat), remR g' o l most rs v = remR g o l most rs v
  | [], v => F.levE o l most [] v
  | w :: rs, v => by rw [remR, remR, F.levE, F.remE o l most rs]
set_option maxRecDepth 100000 in
set_option maxHeartbeats 400000 in
theorem FEq.wthE {g g' : Nat → Int32} (F : FEq g g') (f : Nat → Bool) : ∀ n, wth g' f n = wth g f n
  | 0 => rfl
  | n + 1 => by
    show wth g' f n + (if f n = true then qWor g' n else 0) = wth g f n + (if f n = true then qWor g n else 0)
    rw [F.wthE f n, F.2.2.2.2]
set_option maxRecDepth 100000 in
set_option maxHeartbeats 400000 in
theorem FEq.woE {g g' : Nat → Int32} (F : FEq g g') (o : Nat) (r : List Nat) : wo g' o r = wo g o r := F.wthE _ 64
set_option maxRecDepth 100000 in
set_option maxHeartbeats 400000 in
theorem FEq.bestE {g g' : Nat → Int32} (F : FEq g g') (c l : Nat) (rs : List (List Nat)) : bestOf g' c l rs = bestOf g c l rs := by
  unfold bestOf
  have e : bst g' c l = bst g c l := by
    funext ob r
    unfold bst
    rw [F.rpE]
    have : (∀ vs, ob = some vs → wo g' c vs < wo g' c r) = (∀ vs, ob = some vs → wo g c vs < wo g c r) := by
      apply propext
      constructor
      · intro z vs h; have := z vs h; rw [F.woE, F.woE] at this; exact this
      · intro z vs h; rw [F.woE, F.woE]; exact z vs h
    rw [this]
  rw [e]
set_option maxRecDepth 100000 in
set_option maxHeartbeats 400000 in
theorem FEq.tblE {g g' : Nat → Int32} (F : FEq g g') {h : aH} {c : Nat} (H : tbl h g c) : tbl h g' c := by
  refine tbl_iff.mpr (fun l hl => ?_)
  have := tbl_iff.mp H l hl
  rw [F.bestE, F.dfsE]
  cases hb : bestOf g c l (dfs g c 12 c [c] []) with
  | none => rw [hb] at this; exact this
  | some ws =>
    rw [hb] at this
    obtain ⟨a, b, d⟩ := this
    exact ⟨by rw [F.woE]; exact a, b, d⟩
set_option maxRecDepth 100000 in
set_option maxHeartbeats 400000 in
theorem FEq.symm {g g' : Nat → Int32} (F : FEq g g') : FEq g' g := ⟨F.1.symm, F.2.1.symm, F.2.2.1.symm, F.2.2.2.1.symm, F.2.2.2.2.symm⟩
set_option maxRecDepth 100000 in
set_option maxHeartbeats 400000 in
theorem RS_eq {g g' : Nat → Int32} (F : FEq g g') {e o l most v : Nat} {ws : List Nat} {h : aH} (R : RS e g o l most ws v h) : RS e g' o l most ws v h := by
  obtain ⟨r1, r2, r3, r4⟩ := R
  exact ⟨r1, r2, fun k hk => by rw [F.rpE]; exact r3 k hk, r4⟩
/-! the way back -/
set_option maxRecDepth 100000 in
set_option maxHeartbeats 400000 in
theorem opp_opp {w : Nat} (hw : w < 4) : opp (opp w) = w := by unfold opp; omega
set_option maxRecDepth 100000 in
set_option maxHeartbeats 400000 in
theorem opp_lt (w : Nat) : opp w < 4 := by unfold opp; omega
set_option maxRecDepth 100000 in
set_option maxHeartbeats 400000 in
theorem stay_opp {g : Nat → Int32} (w7 : qW g ≤ 7) {c w : Nat} (hc : inG g c) (hs : stay g c w) : stay g (sx c w) (opp w) ∧ sx (sx c w) (opp w) = c := by
  have c1 := hc.1
  have c2 := hc.2
  unfold stay at hs ⊢
  rcases hs with ⟨rfl, hs⟩ | ⟨rfl, hs⟩ | ⟨rfl, hs⟩ | ⟨rfl, hs⟩
  · refine ⟨Or.inr (Or.inr (Or.inl ⟨rfl, ?_⟩)), ?_⟩
    · show (c - 8) / 8 < qH g; omega
    · show c - 8 + 8 = c; omega
  · refine ⟨Or.inr (Or.inr (Or.inr ⟨rfl, ?_⟩)), ?_⟩
    · show 0 < (c + 1) % 8; omega
    · show c + 1 - 1 = c; omega
  · refine ⟨Or.inl ⟨rfl, ?_⟩, ?_⟩
    · show 8 ≤ c + 8; omega
    · show c + 8 - 8 = c; omega
  · refine ⟨Or.inr (Or.inl ⟨rfl, ?_⟩), ?_⟩
    · show (c - 1) % 8 < qW g; omega
    · show c - 1 + 1 = c; omega
set_option maxRecDepth 100000 in
set_option maxHeartbeats 400000 in
theorem walks_rv {g : Nat → Int32} (w7 : qW g ≤ 7) : ∀ (ws : List Nat) (c : Nat), inG g c → qSt g c = false → walks g c ws → walks g (pe c ws) (rv ws)
  | [], _, _, _, _ => trivial
  | w :: ws, c, hc, hq, h => by
    obtain ⟨h1, h2, h3⟩ := h
    obtain ⟨hs, hq2⟩ := lead_stay h2
    obtain ⟨s1, s2⟩ := stay_opp w7 hc hs
    have xin := stay_in w7 hc hs
    rw [rv_c, walks_app]
    have ih := walks_rv w7 ws (sx c w) xin hq2 h3
    refine ⟨ih, ?_⟩
    have hk : pe (pe (sx c w) ws) (rv ws) = sx c w := by
      have : ∀ (vs : List Nat) (a : Nat), inG g a → walks g a vs → pe (pe a vs) (rv vs) = a := by
        intro vs
        induction vs with
        | nil => intro a _ _; rfl
        | cons v vs ihv =>
          intro a ha hv
          rw [rv_c, pe_app, show pe a (v :: vs) = pe (sx a v) vs from rfl, ihv (sx a v) (stay_in w7 ha (lead_stay hv.2.1).1) hv.2.2]
          exact (stay_opp w7 ha (lead_stay hv.2.1).1).2
      exact this ws (sx c w) xin h3
    show walks g (pe (pe (sx c w) ws) (rv ws)) [opp w]
    rw [hk]
    exact ⟨opp_lt w, pB_t ⟨s1, by rw [s2]; exact hq⟩, trivial⟩
set_option maxRecDepth 100000 in
set_option maxHeartbeats 400000 in
theorem walks_st {g : Nat → Int32} : ∀ (ws : List Nat) (c : Nat), walks g c ws → ∀ x, x ∈ pcs c ws → qSt g x = false
  | w :: ws, c, h, x, hx => by
    rw [pcs] at hx
    rcases List.mem_cons.mp hx with rfl | hx
    · exact (lead_stay h.2.1).2
    · exact walks_st ws _ h.2.2 x hx
set_option maxRecDepth 100000 in
set_option maxHeartbeats 400000 in
theorem ring_rv {g : Nat → Int32} (Hw : wfG g) {o : Nat} {r : List Nat} (hr : isRing g o r) : isRing g o (rv r) ∧ (∀ b, b < 64 → ins o (rv r) b = ins o r b) := by
  obtain ⟨ho, h2, h3, h4, h5⟩ := hr
  have hk := walks_wk Hw.w7 Hw.h6 r o ho h2
  have hne : r ≠ [] := fun z => by rw [z] at h5; simp at h5
  have hom : o ∈ pcs o r := by have := pe_mem r o hne; rw [h3] at this; exact this
  have hq := walks_st r o h2 o hom
  have w1 := walks_rv Hw.w7 r o ho hq h2
  rw [h3] at w1
  have p1 := rv_pe r o hk
  rw [h3] at p1
  have p2 := rv_pcs r o hk
  rw [h3] at p2
  have p3 := fun b hb => rv_ins r o hk b hb
  rw [h3] at p3
  refine ⟨⟨ho, w1, p1, ?_, by rw [rv_len]; exact h5⟩, p3⟩
  have pm : (o :: pcs o (rv r)).Perm (o :: pcs o r) := by
    rw [p2]; exact List.reverse_perm _
  exact (List.Perm.nodup_iff (List.Perm.cons_inv pm)).mpr h4
def fw (r : List Nat) : Bool := decide (r.getD 0 0 < opp (r.getD (r.length - 1) 0))
set_option maxRecDepth 100000 in
set_option maxHeartbeats 400000 in
theorem rv_snoc (ys : List Nat) (v : Nat) : rv (ys ++ [v]) = opp v :: rv ys := by simp [rv]
set_option maxRecDepth 100000 in
set_option maxHeartbeats 400000 in
theorem fw_ne {g : Nat → Int32} (Hw : wfG g) {o : Nat} {r : List Nat} (hr : isRing g o r) : ∃ w us v, r = w :: us ++ [v] ∧ w < 4 ∧ v < 4 ∧ w ≠ opp v := by
  obtain ⟨ho, h2, h3, h4, h5⟩ := hr
  have hne : r ≠ [] := fun z => by rw [z] at h5; simp at h5
  obtain ⟨us, v, e⟩ : ∃ us v, r = us ++ [v] := ⟨r.dropLast, r.getLast hne, (List.dropLast_concat_getLast hne).symm⟩
  subst e
  cases us with
  | nil => simp at h5
  | cons w us =>
    have h2' := (walks_app (w :: us) [v] o).mp h2
    have cin := walks_in Hw.w7 _ o ho h2'.1
    have hlv := h2'.2.2.1
    refine ⟨w, us, v, rfl, h2'.1.1, h2'.2.1, fun z => ?_⟩
    obtain ⟨-, s2⟩ := stay_opp Hw.w7 cin (lead_stay hlv).1
    have e1 : sx (pe o (w :: us)) v = o := by rw [pe_app] at h3; exact h3
    rw [e1, ← z] at s2
    have hus : us ≠ [] := fun y => by rw [y] at h5; simp at h5
    have m1 := pe_mem us (sx o w) hus
    rw [show pe (sx o w) us = pe o (w :: us) from rfl, ← s2] at m1
    rw [pcs_app, pcs, List.cons_append] at h4
    exact (List.nodup_cons.mp h4).1 (List.mem_append_left _ m1)
set_option maxRecDepth 100000 in
set_option maxHeartbeats 400000 in
theorem fw_rv {g : Nat → Int32} (Hw : wfG g) {o : Nat} {r : List Nat} (hr : isRing g o r) (h : fw r = false) : fw (rv r) = true := by
  obtain ⟨w, us, v, e, w4, v4, ne⟩ := fw_ne Hw hr
  subst e
  have h := of_decide_eq_false h
  rw [show (w :: us ++ [v]).length - 1 = (w :: us).length by simp, getD_snoc_e] at h
  change ¬ w < opp v at h
  have e1 : rv (w :: us ++ [v]) = opp v :: (rv us ++ [opp w]) := by rw [rv_snoc, rv_c]
  unfold fw
  rw [e1]
  apply decide_eq_true
  rw [show (opp v :: (rv us ++ [opp w])).length - 1 = (opp v :: rv us).length by simp]
  rw [show opp v :: (rv us ++ [opp w]) = (opp v :: rv us) ++ [opp w] from rfl, getD_snoc_e, opp_opp w4]
  show opp v < w
  omega
/-! no more than 72 -/
def stF (p w : Nat) : Nat := if w = 0 then p - 64 else if w = 1 then p + 1 else if w = 2 then p + 64 else p - 1
def dsF (p : Nat) : Nat := (p % 64 - 20) + (20 - p % 64) + ((p / 64 - 20) + (20 - p / 64))
def fds : Nat → Nat → List Nat → List Nat → List (List Nat)
  | 0, _, _, _ => []
  | n + 1, p, bn, ws => [0, 1, 2, 3].flatMap fun w => if stF p w = 1300 then (if 4 ≤ ws.length + 1 then [ws ++ [w]] else []) else if bn.contains (stF p w) = false ∧ dsF (stF p w) ≤ n then fds n (stF p w) (stF p w :: bn) (ws ++ [w]) else []
set_option maxRecDepth 100000 in
set_option maxHeartbeats 400000 in
theorem fds_72 : ((fds 8 1300 [1300] []).filter fw).length ≤ 72 := by decide +kernel
def em (o c : Nat) : Nat := (c % 8 + 20 - o % 8) + 64 * (c / 8 + 20 - o / 8)
set_option maxRecDepth 100000 in
set_option maxHeartbeats 400000 in
theorem em_o (o : Nat) : em o o = 1300 := by unfold em; omega
set_option maxRecDepth 100000 in
set_option maxHeartbeats 400000 in
theorem em_i {o c c' : Nat} (ho : o < 56) (hc : c < 56) (hc' : c' < 56) (h : em o c = em o c') : c = c' := by
  unfold em at h; omega
set_option maxRecDepth 100000 in
set_option maxHeartbeats 400000 in
theorem em_d {o c : Nat} (ho : o < 56) (hc : c < 56) : dsF (em o c) = ds c o := by
  unfold dsF em ds
  have h1 : ((c % 8 + 20 - o % 8) + 64 * (c / 8 + 20 - o / 8)) % 64 = c % 8 + 20 - o % 8 := by omega
  have h2 : ((c % 8 + 20 - o % 8) + 64 * (c / 8 + 20 - o / 8)) / 64 = c / 8 + 20 - o / 8 := by omega
  rw [h1, h2]
  omega
set_option maxRecDepth 100000 in
set_option maxHeartbeats 400000 in
theorem em_s {o c w : Nat} (ho : o < 56) (hc : c < 56) (hw : w < 4) (h : st7 c w = true) : em o (sx c w) = stF (em o c) w := by
  have h := of_decide_eq_true h
  rcases (show w = 0 ∨ w = 1 ∨ w = 2 ∨ w = 3 by omega) with rfl | rfl | rfl | rfl
  · have h8 : 8 ≤ c := by omega
    show em o (c - 8) = em o c - 64
    unfold em; omega
  · have h8 : c % 8 < 7 := by omega
    show em o (c + 1) = em o c + 1
    unfold em; omega
  · show em o (c + 8) = em o c + 64
    unfold em; omega
  · have h8 : 0 < c % 8 := by omega
    show em o (c - 1) = em o c - 1
    unfold em; omega
set_option maxRecDepth 100000 in
set_option maxHeartbeats 400000 in
theorem dfs_sub {g : Nat → Int32} (Hw : wfG g) {o : Nat} (ho : inG g o) : ∀ (n c : Nat) (bn ws : List Nat), inG g c → (∀ x, x ∈ bn → x < 56) → List.Sublist (dfs g o n c bn ws) (fds n (em o c) (bn.map (em o)) ws) := by
  have w7 := Hw.w7
  have h6 := Hw.h6
  have o56 := inG56 w7 h6 ho
  intro n
  induction n with
  | zero => intro c bn ws _ _; exact List.Sublist.refl _
  | succ n ih =>
    intro c bn ws hc hb
    have c56 := inG56 w7 h6 hc
    have one : ∀ w, w < 4 → List.Sublist (dF1 g o n c bn ws w) (if stF (em o c) w = 1300 then (if 4 ≤ ws.length + 1 then [ws ++ [w]] else []) else if (bn.map (em o)).contains (stF (em o c) w) = false ∧ dsF (stF (em o c) w) ≤ n then fds n (stF (em o c) w) (stF (em o c) w :: bn.map (em o)) (ws ++ [w]) else []) := by
      intro w hw
      unfold dF1
      by_cases hl : lead g c w = true
      · rw [br_pos hl]
        have hs := (lead_stay hl).1
        have s7 := stay7 w7 h6 hs
        have xin := stay_in w7 hc hs
        have x56 := inG56 w7 h6 xin
        have es := em_s o56 c56 hw s7
        rw [← es]
        by_cases q1 : sx c w = o
        · rw [br_pos q1, if_pos (by rw [q1, em_o])]
          by_cases q2 : 4 ≤ ws.length + 1 ∧ clr g o (ws ++ [w])
          · rw [br_pos q2, if_pos q2.1]; exact List.Sublist.refl _
          · rw [br_neg q2]; exact List.nil_sublist _
        · rw [br_neg q1, if_neg (fun z => q1 (em_i o56 x56 o56 (by rw [z, em_o])))]
          by_cases q2 : sx c w ∉ bn ∧ ds (sx c w) o ≤ n
          · have hnc : (bn.map (em o)).contains (em o (sx c w)) = false := by
              cases hq : (bn.map (em o)).contains (em o (sx c w)) with
              | false => rfl
              | true =>
                exfalso
                rw [List.contains_iff_mem, List.mem_map] at hq
                obtain ⟨x, hx, e⟩ := hq
                exact q2.1 (em_i o56 x56 (hb x hx) e.symm ▸ hx)
            rw [br_pos q2, if_pos ⟨hnc, by rw [em_d o56 x56]; exact q2.2⟩]
            exact ih (sx c w) (sx c w :: bn) (ws ++ [w]) xin (fun x hx => by
              rcases List.mem_cons.mp hx with rfl | hx
              · exact x56
              · exact hb x hx)
          · rw [br_neg q2]; exact List.nil_sublist _
      · rw [br_neg hl]; exact List.nil_sublist _
    rw [dfs_dFr, fds]
    simp only [dFr, List.flatMap_cons, List.flatMap_nil]
    exact List.Sublist.append (one 0 (by omega)) (List.Sublist.append (one 1 (by omega)) (List.Sublist.append (one 2 (by omega)) (List.Sublist.append (one 3 (by omega)) (List.Sublist.refl _))))
set_option maxRecDepth 100000 in
set_option maxHeartbeats 400000 in
theorem kl_72 {g : Nat → Int32} (Hw : wfG g) {o : Nat} (ho : inG g o) : ((dfs g o 8 o [o] []).filter fw).length ≤ 72 := by
  have o56 := inG56 Hw.w7 Hw.h6 ho
  have h1 := dfs_sub Hw ho 8 o [o] [] ho (fun x hx => by rw [List.mem_singleton] at hx; omega)
  rw [em_o, show [o].map (em o) = [1300] by simp [em_o]] at h1
  exact Nat.le_trans (List.Sublist.length_le (List.Sublist.filter fw h1)) fds_72
