/-! all ways that shut: what is among them; those that a rope is enough for -/
set_option maxRecDepth 100000 in
set_option maxHeartbeats 400000 in
theorem ds_step {c w o : Nat} (hw : w < 4) (h : st7 c w = true) : ds c o ≤ ds (sx c w) o + 1 := by
  have h := of_decide_eq_true h
  unfold ds sx
  rcases (show w = 0 ∨ w = 1 ∨ w = 2 ∨ w = 3 by omega) with rfl | rfl | rfl | rfl <;> simp at h ⊢ <;> omega
set_option maxRecDepth 100000 in
set_option maxHeartbeats 400000 in
theorem ds_len : ∀ (vs : List Nat) (c : Nat), wk c vs → ds c (pe c vs) ≤ vs.length
  | [], c, _ => by unfold ds pe; simp
  | w :: vs, c, h => by
    have h1 := ds_len vs (sx c w) h.2.2.2
    have h2 := ds_step (o := pe c (w :: vs)) h.1 h.2.2.1
    rw [pe_c] at h2 ⊢
    rw [List.length_cons]
    omega
set_option maxRecDepth 100000 in
set_option maxHeartbeats 400000 in
theorem rng4 {w : Nat} : w ∈ List.range 4 ↔ w < 4 := List.mem_range
set_option maxRecDepth 100000 in
set_option maxHeartbeats 400000 in
theorem dfs_mem {g : Nat → Int32} (h1 : qW g ≤ 7) (h2 : qH g ≤ 6) (o : Nat) : ∀ (n c : Nat) (bn ws r : List Nat), inG g c → o ∈ bn → (r ∈ dfs g o n c bn ws ↔ ∃ vs, r = ws ++ vs ∧ vs ≠ [] ∧ walks g c vs ∧ pe c vs = o ∧ vs.length ≤ n ∧ (pcs c vs).Nodup ∧ (∀ x, x ∈ pcs c vs → x = o ∨ x ∉ bn) ∧ 4 ≤ r.length ∧ clr g o r) := by
  intro n
  induction n with
  | zero =>
    intro c bn ws r hc ho
    rw [dfs]
    constructor
    · intro h; cases h
    · rintro ⟨vs, -, hv, -, -, hl, -⟩
      exact absurd (List.length_eq_zero_iff.mp (by omega)) hv
  | succ n ih =>
    intro c bn ws r hc ho
    rw [dfs, List.mem_flatMap]
    constructor
    · rintro ⟨w, hw, h⟩
      rw [rng4] at hw
      by_cases hl : lead g c w = true
      · rw [br_pos hl] at h
        by_cases e : sx c w = o
        · rw [br_pos e] at h
          by_cases hk : 4 ≤ ws.length + 1 ∧ clr g o (ws ++ [w])
          · rw [br_pos hk, List.mem_singleton] at h
            subst h
            refine ⟨[w], rfl, by simp, ⟨hw, hl, trivial⟩, e, by simp, by simp [pcs], ?_, by simp; omega, hk.2⟩
            intro x hx
            rw [show pcs c [w] = [sx c w] from rfl, List.mem_singleton] at hx
            exact Or.inl (hx.trans e)
          · rw [br_neg hk] at h; cases h
        · rw [br_neg e] at h
          by_cases hk : sx c w ∉ bn ∧ ds (sx c w) o ≤ n
          · rw [br_pos hk] at h
            obtain ⟨vs, e1, e2, e3, e4, e5, e6, e7, e8, e9⟩ := (ih (sx c w) (sx c w :: bn) (ws ++ [w]) r (stay_in h1 hc (lead_stay hl).1) (List.mem_cons_of_mem _ ho)).mp h
            refine ⟨w :: vs, by rw [e1]; simp, by simp, ⟨hw, hl, e3⟩, e4, by simp; omega, ?_, ?_, e8, e9⟩
            · rw [pcs]
              refine List.nodup_cons.mpr ⟨fun hm => ?_, e6⟩
              rcases e7 _ hm with q | q
              · exact e q
              · exact q (List.mem_cons_self ..)
            · intro x hx
              rw [pcs] at hx
              rcases List.mem_cons.mp hx with rfl | hx
              · exact Or.inr hk.1
              · rcases e7 _ hx with q | q
                · exact Or.inl q
                · exact Or.inr (fun z => q (List.mem_cons_of_mem _ z))
          · rw [br_neg hk] at h; cases h
      · rw [br_neg hl] at h; cases h
    · rintro ⟨vs, e1, e2, e3, e4, e5, e6, e7, e8, e9⟩
      cases vs with
      | nil => exact absurd rfl e2
      | cons w vs =>
        obtain ⟨a1, a2, a3⟩ := e3
        have hst := (lead_stay a2).1
        refine ⟨w, rng4.mpr a1, ?_⟩
        rw [br_pos a2]
        rw [pcs] at e6 e7
        obtain ⟨b1, b2⟩ := List.nodup_cons.mp e6
        rw [pe_c] at e4
        by_cases e : sx c w = o
        · rw [br_pos e]
          have hv : vs = [] := by
            by_cases z : vs = []
            · exact z
            · have := pe_mem vs (sx c w) z
              rw [e4, ← e] at this
              exact absurd this b1
          subst hv
          rw [br_pos ⟨by rw [e1] at e8; simpa using e8, e1 ▸ e9⟩, e1]
          exact List.mem_singleton.mpr rfl
        · rw [br_neg e]
          have hwk := walks_wk h1 h2 vs (sx c w) (stay_in h1 hc hst) a3
          have hd := ds_len vs (sx c w) hwk
          rw [e4] at hd
          rw [List.length_cons] at e5
          have hb : sx c w ∉ bn := by
            rcases e7 _ (List.mem_cons_self ..) with q | q
            · exact absurd q e
            · exact q
          rw [br_pos ⟨hb, by omega⟩]
          refine (ih (sx c w) (sx c w :: bn) (ws ++ [w]) r (stay_in h1 hc hst) (List.mem_cons_of_mem _ ho)).mpr ⟨vs, by rw [e1]; simp, fun z => ?_, a3, e4, by omega, b2, fun x hx => ?_, e8, e9⟩
          · subst z
            exact e e4
          · rcases e7 x (List.mem_cons_of_mem _ hx) with q | q
            · exact Or.inl q
            · refine Or.inr (fun z => ?_)
              rcases List.mem_cons.mp z with z | z
              · exact b1 (z ▸ hx)
              · exact q z
/-! the rings from a corner, of so many steps -/
set_option maxRecDepth 100000 in
set_option maxHeartbeats 400000 in
theorem dfs_ring {g : Nat → Int32} (h1 : qW g ≤ 7) (h2 : qH g ≤ 6) {o : Nat} (ho : inG g o) {n : Nat} {r : List Nat} : r ∈ dfs g o n o [o] [] ↔ isRing g o r ∧ r.length ≤ n ∧ clr g o r := by
  rw [dfs_mem h1 h2 o n o [o] [] r ho (List.mem_singleton.mpr rfl)]
  constructor
  · rintro ⟨vs, e1, e2, e3, e4, e5, e6, e7, e8, e9⟩
    rw [List.nil_append] at e1
    subst e1
    exact ⟨⟨ho, e3, e4, e6, e8⟩, e5, e9⟩
  · rintro ⟨⟨-, e3, e4, e6, e8⟩, e5, e9⟩
    refine ⟨r, rfl, fun z => by rw [z] at e8; simp at e8, e3, e4, e5, e6, fun x _ => ?_, e8, e9⟩
    by_cases z : x = o
    · exact Or.inl z
    · exact Or.inr (fun q => z (List.mem_singleton.mp q))
set_option maxRecDepth 100000 in
set_option maxHeartbeats 400000 in
theorem ring_wk {g : Nat → Int32} (h1 : qW g ≤ 7) (h2 : qH g ≤ 6) {o : Nat} {r : List Nat} (h : isRing g o r) : wk o r := walks_wk h1 h2 r o h.1 h.2.1
/-! ropes -/
set_option maxRecDepth 100000 in
set_option maxHeartbeats 400000 in
theorem rp_app (g : Nat → Int32) : ∀ (ws vs : List Nat) (c : Nat), rp g c (ws ++ vs) = rp g c ws + rp g (pe c ws) vs
  | [], vs, c => by show rp g c vs = 0 + rp g c vs; omega
  | w :: ws, vs, c => by rw [List.cons_append, rp, rp_app g ws vs, rp, pe_c]; omega
noncomputable def frG (g : Nat → Int32) (k : Nat) : Bool := if k % 2 = 1 then fE g (k / 2) else fS g (k / 2)
set_option maxRecDepth 100000 in
set_option maxHeartbeats 400000 in
theorem tk_ek (g : Nat → Int32) {c w : Nat} (hw : w < 4) : tk g c w = if frG g (ek c w) = true then 0 else 1 := by
  unfold tk frG ek
  rcases (show w = 0 ∨ w = 1 ∨ w = 2 ∨ w = 3 by omega) with rfl | rfl | rfl | rfl
  · simp
  · simp [show (2 * c + 1) / 2 = c by omega, show (2 * c + 1) % 2 = 1 by omega]
  · simp
  · simp [show (2 * (c - 1) + 1) / 2 = c - 1 by omega, show (2 * (c - 1) + 1) % 2 = 1 by omega]
set_option maxRecDepth 100000 in
set_option maxHeartbeats 400000 in
theorem rp_rpk (g : Nat → Int32) : ∀ (ws : List Nat) (c : Nat), wk c ws → rp g c ws = rpk (frG g) c ws
  | [], _, _ => rfl
  | w :: ws, c, h => by rw [rp, rpk, tk_ek g h.1, rp_rpk g ws _ h.2.2.2]
set_option maxRecDepth 100000 in
set_option maxHeartbeats 400000 in
theorem rp_border {g : Nat → Int32} (h1 : qW g ≤ 7) (h2 : qH g ≤ 6) {o : Nat} {r : List Nat} (h : isRing g o r) : rp g o r = pct (fun b => bS (ins o r) b && !fS g b) 64 + pct (fun b => bE (ins o r) b && !fE g b) 64 := by
  have hk := ring_wk h1 h2 h
  rw [rp_rpk g r o hk, rpk_border hk h.2.2.1 h.2.2.2.1 (by have := h.2.2.2.2; omega)]
  refine congr (congrArg _ (pct_cong (fun b _ => ?_))) (pct_cong (fun b _ => ?_))
  · unfold frG
    rw [if_neg (by omega), show 2 * b / 2 = b by omega]
  · unfold frG
    rw [if_pos (by omega), show (2 * b + 1) / 2 = b by omega]
/-! the search that a rope cuts short -/
noncomputable def dfr (g : Nat → Int32) (o l : Nat) : Nat → Nat → List Nat → List Nat → Nat → List (List Nat)
  | 0, _, _, _, _ => []
  | n + 1, c, bn, ws, t => (List.range 4).flatMap fun w =>
    br (lead g c w = true ∧ t + tk g c w ≤ l) (br (sx c w = o) (br (4 ≤ ws.length + 1 ∧ clr g o (ws ++ [w])) [ws ++ [w]] []) (br (sx c w ∉ bn ∧ ds (sx c w) o ≤ n) (dfr g o l n (sx c w) (sx c w :: bn) (ws ++ [w]) (t + tk g c w)) [])) []
set_option maxRecDepth 100000 in
set_option maxHeartbeats 400000 in
theorem dfs_pre (g : Nat → Int32) (o : Nat) : ∀ (n c : Nat) (bn ws r : List Nat), r ∈ dfs g o n c bn ws → ∃ vs, r = ws ++ vs := by
  intro n
  induction n with
  | zero => intro c bn ws r h; rw [dfs] at h; cases h
  | succ n ih =>
    intro c bn ws r h
    rw [dfs, List.mem_flatMap] at h
    obtain ⟨w, -, h⟩ := h
    by_cases hl : lead g c w = true
    · rw [br_pos hl] at h
      by_cases e : sx c w = o
      · rw [br_pos e] at h
        by_cases hk : 4 ≤ ws.length + 1 ∧ clr g o (ws ++ [w])
        · rw [br_pos hk, List.mem_singleton] at h
          exact ⟨[w], h⟩
        · rw [br_neg hk] at h; cases h
      · rw [br_neg e] at h
        by_cases hk : sx c w ∉ bn ∧ ds (sx c w) o ≤ n
        · rw [br_pos hk] at h
          obtain ⟨vs, e1⟩ := ih _ _ _ _ h
          exact ⟨w :: vs, by rw [e1]; simp⟩
        · rw [br_neg hk] at h; cases h
    · rw [br_neg hl] at h; cases h
set_option maxRecDepth 100000 in
set_option maxHeartbeats 400000 in
theorem flatMap_cong {α β : Type} {f g : α → List β} : ∀ {l : List α}, (∀ a, a ∈ l → f a = g a) → l.flatMap f = l.flatMap g
  | [], _ => rfl
  | a :: l, h => by rw [List.flatMap_cons, List.flatMap_cons, h a (List.mem_cons_self ..), flatMap_cong (fun b hb => h b (List.mem_cons_of_mem _ hb))]
set_option maxRecDepth 100000 in
set_option maxHeartbeats 400000 in
theorem dfr_eq (g : Nat → Int32) (o l : Nat) : ∀ (n c : Nat) (bn ws : List Nat) (t : Nat), t = rp g o ws → c = pe o ws → dfr g o l n c bn ws t = (dfs g o n c bn ws).filter (fun r => decide (rp g o r ≤ l)) := by
  intro n
  induction n with
  | zero => intro c bn ws t _ _; rfl
  | succ n ih =>
    intro c bn ws t ht hc
    rw [dfr, dfs, List.filter_flatMap]
    refine flatMap_cong (fun w hw => ?_)
    have e1 : rp g o (ws ++ [w]) = t + tk g c w := by rw [rp_app, ← ht, ← hc]; rfl
    by_cases hl : lead g c w = true
    · rw [br_pos hl]
      by_cases ht2 : t + tk g c w ≤ l
      · rw [br_pos ⟨hl, ht2⟩]
        by_cases e : sx c w = o
        · rw [br_pos e, br_pos e]
          by_cases hk : 4 ≤ ws.length + 1 ∧ clr g o (ws ++ [w])
          · rw [br_pos hk, List.filter_cons, if_pos (by rw [e1]; exact decide_eq_true ht2)]; rfl
          · rw [br_neg hk]; rfl
        · rw [br_neg e, br_neg e]
          by_cases hk : sx c w ∉ bn ∧ ds (sx c w) o ≤ n
          · rw [br_pos hk, br_pos hk]
            exact ih _ _ _ _ e1.symm (by rw [pe_app, ← hc]; rfl)
          · rw [br_neg hk, br_neg hk]; rfl
      · rw [br_neg (fun z => ht2 z.2)]
        symm
        rw [List.filter_eq_nil_iff]
        intro r hr
        have : ∃ vs, r = (ws ++ [w]) ++ vs := by
          by_cases e : sx c w = o
          · rw [br_pos e] at hr
            by_cases hk : 4 ≤ ws.length + 1 ∧ clr g o (ws ++ [w])
            · rw [br_pos hk, List.mem_singleton] at hr
              exact ⟨[], by rw [hr]; simp⟩
            · rw [br_neg hk] at hr; cases hr
          · rw [br_neg e] at hr
            by_cases hk : sx c w ∉ bn ∧ ds (sx c w) o ≤ n
            · rw [br_pos hk] at hr
              exact dfs_pre g o _ _ _ _ _ hr
            · rw [br_neg hk] at hr; cases hr
        obtain ⟨vs, e2⟩ := this
        rw [e2, rp_app, e1]
        simp only [decide_eq_true_eq]
        omega
    · rw [br_neg hl, br_neg (fun z => hl z.1)]; rfl
/-- the best of those that are there -/
noncomputable def bsu (g : Nat → Int32) (c : Nat) (o : Option (List Nat)) (ws : List Nat) : Option (List Nat) := br (∀ vs, o = some vs → wo g c vs < wo g c ws) (some ws) o
set_option maxRecDepth 100000 in
set_option maxHeartbeats 400000 in
theorem bestOf_eq (g : Nat → Int32) (c l : Nat) : ∀ (rs : List (List Nat)) (o : Option (List Nat)), rs.foldl (bst g c l) o = (rs.filter (fun r => decide (rp g c r ≤ l))).foldl (bsu g c) o
  | [], _ => rfl
  | r :: rs, o => by
    rw [List.foldl_cons, List.filter_cons]
    by_cases h : rp g c r ≤ l
    · rw [if_pos (decide_eq_true h), List.foldl_cons, bestOf_eq g c l rs]
      congr 1
      unfold bst bsu
      by_cases h2 : ∀ vs, o = some vs → wo g c vs < wo g c r
      · rw [br_pos ⟨h, h2⟩, br_pos h2]
      · rw [br_neg (fun z => h2 z.2), br_neg h2]
    · rw [if_neg (fun z => h (of_decide_eq_true z)), bestOf_eq g c l rs]
      congr 1
      unfold bst
      rw [br_neg (fun z => h z.1)]
set_option maxRecDepth 100000 in
set_option maxHeartbeats 400000 in
theorem best_dfr (g : Nat → Int32) (o l n : Nat) : bestOf g o l (dfs g o n o [o] []) = (dfr g o l n o [o] [] 0).foldl (bsu g o) none := by
  unfold bestOf
  rw [bestOf_eq, dfr_eq g o l n o [o] [] 0 rfl rfl]
/-! the best grows with the rope -/
set_option maxRecDepth 100000 in
set_option maxHeartbeats 400000 in
theorem bst_mem {g : Nat → Int32} {c l : Nat} : ∀ (rs : List (List Nat)) (o : Option (List Nat)) (ws : List Nat), rs.foldl (bst g c l) o = some ws → o = some ws ∨ (ws ∈ rs ∧ rp g c ws ≤ l)
  | [], _, _, h => Or.inl h
  | r :: rs, o, ws, h => by
    rw [List.foldl_cons] at h
    rcases bst_mem rs _ _ h with h | ⟨h, h'⟩
    · unfold bst at h
      by_cases hc : rp g c r ≤ l ∧ ∀ vs, o = some vs → wo g c vs < wo g c r
      · rw [br_pos hc] at h
        cases h
        exact Or.inr ⟨List.mem_cons_self .., hc.1⟩
      · rw [br_neg hc] at h
        exact Or.inl h
    · exact Or.inr ⟨List.mem_cons_of_mem _ h, h'⟩
/-- the worth that is kept, or nothing -/
noncomputable def wOp (g : Nat → Int32) (c : Nat) (o : Option (List Nat)) : Int := match o with
  | none => -1
  | some ws => (wo g c ws : Int)
set_option maxRecDepth 100000 in
set_option maxHeartbeats 400000 in
theorem bst_wOp (g : Nat → Int32) (c l : Nat) (o : Option (List Nat)) (ws : List Nat) : wOp g c (bst g c l o ws) = if rp g c ws ≤ l ∧ wOp g c o < wo g c ws then (wo g c ws : Int) else wOp g c o := by
  unfold bst
  have e : (∀ vs, o = some vs → wo g c vs < wo g c ws) ↔ wOp g c o < wo g c ws := by
    cases o with
    | none => simp [wOp]; omega
    | some vs => simp [wOp]
  by_cases hc : rp g c ws ≤ l ∧ ∀ vs, o = some vs → wo g c vs < wo g c ws
  · rw [br_pos hc, if_pos ⟨hc.1, e.mp hc.2⟩]; rfl
  · rw [br_neg hc, if_neg (fun z => hc ⟨z.1, e.mpr z.2⟩)]
