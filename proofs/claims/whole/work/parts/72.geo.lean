/-! ways: their edges, what lies within them -/
def st7 (c w : Nat) : Bool := decide ((w = 0 ∧ 8 ≤ c) ∨ (w = 1 ∧ c % 8 < 7) ∨ (w = 2 ∧ c / 8 < 6) ∨ (w = 3 ∧ 0 < c % 8))
/-- an edge's number: its lower corner, and whether it lies east-west -/
def ek (c w : Nat) : Nat := if w = 1 then 2 * c + 1 else if w = 3 then 2 * (c - 1) + 1 else if w = 2 then 2 * c else 2 * (c - 8)
def eks (c : Nat) : List Nat → List Nat
  | [] => []
  | w :: ws => ek c w :: eks (sx c w) ws
def xk : List Nat → Nat → Bool
  | [], _ => false
  | e :: es, k => decide (k = e) ^^ xk es k
def wk (c : Nat) : List Nat → Prop
  | [] => True
  | w :: ws => w < 4 ∧ c < 56 ∧ st7 c w = true ∧ wk (sx c w) ws
/-- cells to the east of a step to the north or the south, in its row -/
def vpB (c w b : Nat) : Bool := (decide (w = 0) && decide ((c - 8) / 8 = b / 8 ∧ c % 8 ≤ b % 8)) || (decide (w = 2) && decide (c / 8 = b / 8 ∧ c % 8 ≤ b % 8))
def inv (c : Nat) : List Nat → Nat → Bool
  | [], _ => false
  | w :: ws, b => vpB c w b ^^ inv (sx c w) ws b
set_option maxRecDepth 100000 in
set_option maxHeartbeats 400000 in
theorem stE : ∀ c, c < 56 → ∀ w, w < 4 → st7 c w = true → ∀ b, b < 64 → bE (cpB c w) b = (decide (2 * b + 1 = ek c w) ^^ (decide (b < 8) && (decide (b % 8 < c % 8) ^^ decide (b % 8 < sx c w % 8)))) := by decide +kernel
set_option maxRecDepth 100000 in
set_option maxHeartbeats 400000 in
theorem stS : ∀ c, c < 56 → ∀ w, w < 4 → st7 c w = true → ∀ b, b < 64 → bS (cpB c w) b = (decide (2 * b = ek c w) ^^ (decide (c % 8 = b % 8 ∧ b / 8 < c / 8) ^^ decide (sx c w % 8 = b % 8 ∧ b / 8 < sx c w / 8))) := by decide +kernel
set_option maxRecDepth 100000 in
set_option maxHeartbeats 400000 in
theorem stV : ∀ c, c < 56 → ∀ w, w < 4 → st7 c w = true → ∀ b, b < 64 → cpB c w b = (vpB c w b ^^ (decide (c % 8 ≤ b % 8 ∧ b / 8 < c / 8) ^^ decide (sx c w % 8 ≤ b % 8 ∧ b / 8 < sx c w / 8))) := by decide +kernel
set_option maxRecDepth 100000 in
set_option maxHeartbeats 400000 in
theorem st1 : ∀ c, c < 56 → ∀ w, w < 4 → st7 c w = true → sx c w < 56 ∧ ek c w < 128 ∧ sx c w ≠ c ∧ sx (sx c w) ((w + 2) % 4) = c ∧ ek (sx c w) ((w + 2) % 4) = ek c w ∧ st7 (sx c w) ((w + 2) % 4) = true := by decide +kernel
set_option maxRecDepth 100000 in
set_option maxHeartbeats 400000 in
theorem st2 : ∀ c, c < 56 → ∀ w, w < 4 → st7 c w = true → ∀ b, b < 64 → cpB (sx c w) ((w + 2) % 4) b = cpB c w b := by decide +kernel
set_option maxRecDepth 100000 in
set_option maxHeartbeats 400000 in
theorem cpB_big {c w b : Nat} (hc : c < 56) (hb : 56 ≤ b) : cpB c w b = false := by
  unfold cpB
  rw [decide_eq_false (p := b % 8 = c % 8 ∧ b / 8 < c / 8) (by omega), decide_eq_false (p := b % 8 = (c - 1) % 8 ∧ b / 8 < (c - 1) / 8) (by omega)]
  simp
/-! which two corners an edge joins -/
set_option maxRecDepth 100000 in
set_option maxHeartbeats 400000 in
theorem st3 {c w e v : Nat} (hw : w < 4) (hv : v < 4) (h1 : st7 c w = true) (h2 : st7 e v = true) (h : ek c w = ek e v) : (c = e ∧ sx c w = sx e v) ∨ (c = sx e v ∧ sx c w = e) := by
  unfold st7 at h1 h2
  have h1 := of_decide_eq_true h1
  have h2 := of_decide_eq_true h2
  unfold ek at h
  unfold sx
  rcases (show w = 0 ∨ w = 1 ∨ w = 2 ∨ w = 3 by omega) with rfl | rfl | rfl | rfl <;> rcases (show v = 0 ∨ v = 1 ∨ v = 2 ∨ v = 3 by omega) with rfl | rfl | rfl | rfl <;> simp at h h1 h2 ⊢ <;> omega
set_option maxRecDepth 100000 in
set_option maxHeartbeats 400000 in
theorem bE_x (f g : Nat → Bool) (b : Nat) : bE (fun i => f i ^^ g i) b = (bE f b ^^ bE g b) := by
  unfold bE
  show ((f b ^^ g b) ^^ (decide (8 ≤ b) && (f (b - 8) ^^ g (b - 8)))) = _
  cases f b <;> cases g b <;> cases decide (8 ≤ b) <;> cases f (b - 8) <;> cases g (b - 8) <;> rfl
set_option maxRecDepth 100000 in
set_option maxHeartbeats 400000 in
theorem bS_x (f g : Nat → Bool) (b : Nat) : bS (fun i => f i ^^ g i) b = (bS f b ^^ bS g b) := by
  unfold bS
  show ((f b ^^ g b) ^^ (decide (1 ≤ b) && (f (b - 1) ^^ g (b - 1)))) = _
  cases f b <;> cases g b <;> cases decide (1 ≤ b) <;> cases f (b - 1) <;> cases g (b - 1) <;> rfl
set_option maxRecDepth 100000 in
set_option maxHeartbeats 400000 in
theorem ins_c (c w : Nat) (ws : List Nat) : ins c (w :: ws) = fun b => cpB c w b ^^ ins (sx c w) ws b := by
  funext b; rfl
set_option maxRecDepth 100000 in
set_option maxHeartbeats 400000 in
theorem pe_c (c w : Nat) (ws : List Nat) : pe c (w :: ws) = pe (sx c w) ws := rfl
set_option maxRecDepth 100000 in
set_option maxHeartbeats 400000 in
theorem pe_n (c : Nat) : pe c [] = c := rfl
set_option maxRecDepth 100000 in
set_option maxHeartbeats 400000 in
theorem pe_app (c : Nat) (ws vs : List Nat) : pe c (ws ++ vs) = pe (pe c ws) vs := List.foldl_append ..
set_option maxRecDepth 100000 in
set_option maxHeartbeats 400000 in
theorem bE_ins : ∀ (ws : List Nat) (c : Nat), wk c ws → ∀ b, b < 64 → bE (ins c ws) b = (xk (eks c ws) (2 * b + 1) ^^ (decide (b < 8) && (decide (b % 8 < c % 8) ^^ decide (b % 8 < pe c ws % 8))))
  | [], c, _, b, _ => by
    show bE (fun _ => false) b = (false ^^ (decide (b < 8) && (decide (b % 8 < c % 8) ^^ decide (b % 8 < c % 8))))
    unfold bE
    cases decide (8 ≤ b) <;> cases decide (b < 8) <;> cases decide (b % 8 < c % 8) <;> rfl
  | w :: ws, c, h, b, hb => by
    obtain ⟨h1, h2, h3, h4⟩ := h
    rw [ins_c, bE_x, stE c h2 w h1 h3 b hb, bE_ins ws (sx c w) h4 b hb, pe_c, eks, xk]
    cases decide (2 * b + 1 = ek c w) <;> cases decide (b < 8) <;> cases decide (b % 8 < c % 8) <;> cases decide (b % 8 < sx c w % 8) <;> cases xk (eks (sx c w) ws) (2 * b + 1) <;> cases decide (b % 8 < pe (sx c w) ws % 8) <;> rfl
set_option maxRecDepth 100000 in
set_option maxHeartbeats 400000 in
theorem bS_ins : ∀ (ws : List Nat) (c : Nat), wk c ws → ∀ b, b < 64 → bS (ins c ws) b = (xk (eks c ws) (2 * b) ^^ (decide (c % 8 = b % 8 ∧ b / 8 < c / 8) ^^ decide (pe c ws % 8 = b % 8 ∧ b / 8 < pe c ws / 8)))
  | [], c, _, b, _ => by
    show bS (fun _ => false) b = (false ^^ (decide (c % 8 = b % 8 ∧ b / 8 < c / 8) ^^ decide (c % 8 = b % 8 ∧ b / 8 < c / 8)))
    unfold bS
    cases decide (1 ≤ b) <;> cases decide (c % 8 = b % 8 ∧ b / 8 < c / 8) <;> rfl
  | w :: ws, c, h, b, hb => by
    obtain ⟨h1, h2, h3, h4⟩ := h
    rw [ins_c, bS_x, stS c h2 w h1 h3 b hb, bS_ins ws (sx c w) h4 b hb, pe_c, eks, xk]
    cases decide (2 * b = ek c w) <;> cases decide (c % 8 = b % 8 ∧ b / 8 < c / 8) <;> cases decide (sx c w % 8 = b % 8 ∧ b / 8 < sx c w / 8) <;> cases xk (eks (sx c w) ws) (2 * b) <;> cases decide (pe (sx c w) ws % 8 = b % 8 ∧ b / 8 < pe (sx c w) ws / 8) <;> rfl
set_option maxRecDepth 100000 in
set_option maxHeartbeats 400000 in
theorem inv_ins : ∀ (ws : List Nat) (c : Nat), wk c ws → ∀ b, b < 64 → ins c ws b = (inv c ws b ^^ (decide (c % 8 ≤ b % 8 ∧ b / 8 < c / 8) ^^ decide (pe c ws % 8 ≤ b % 8 ∧ b / 8 < pe c ws / 8)))
  | [], c, _, b, _ => by
    show false = (false ^^ (decide (c % 8 ≤ b % 8 ∧ b / 8 < c / 8) ^^ decide (c % 8 ≤ b % 8 ∧ b / 8 < c / 8)))
    cases decide (c % 8 ≤ b % 8 ∧ b / 8 < c / 8) <;> rfl
  | w :: ws, c, h, b, hb => by
    obtain ⟨h1, h2, h3, h4⟩ := h
    rw [ins, inv, stV c h2 w h1 h3 b hb, inv_ins ws (sx c w) h4 b hb, pe_c]
    cases vpB c w b <;> cases decide (c % 8 ≤ b % 8 ∧ b / 8 < c / 8) <;> cases decide (sx c w % 8 ≤ b % 8 ∧ b / 8 < sx c w / 8) <;> cases inv (sx c w) ws b <;> cases decide (pe (sx c w) ws % 8 ≤ b % 8 ∧ b / 8 < pe (sx c w) ws / 8) <;> rfl
set_option maxRecDepth 100000 in
set_option maxHeartbeats 400000 in
theorem bE_cl {ws : List Nat} {c : Nat} (h : wk c ws) (e : pe c ws = c) {b : Nat} (hb : b < 64) : bE (ins c ws) b = xk (eks c ws) (2 * b + 1) := by
  rw [bE_ins ws c h b hb, e]
  cases xk (eks c ws) (2 * b + 1) <;> cases decide (b < 8) <;> cases decide (b % 8 < c % 8) <;> rfl
set_option maxRecDepth 100000 in
set_option maxHeartbeats 400000 in
theorem bS_cl {ws : List Nat} {c : Nat} (h : wk c ws) (e : pe c ws = c) {b : Nat} (hb : b < 64) : bS (ins c ws) b = xk (eks c ws) (2 * b) := by
  rw [bS_ins ws c h b hb, e]
  cases xk (eks c ws) (2 * b) <;> cases decide (c % 8 = b % 8 ∧ b / 8 < c / 8) <;> rfl
set_option maxRecDepth 100000 in
set_option maxHeartbeats 400000 in
theorem inv_cl {ws : List Nat} {c : Nat} (h : wk c ws) (e : pe c ws = c) {b : Nat} (hb : b < 64) : inv c ws b = ins c ws b := by
  rw [inv_ins ws c h b hb, e]
  cases inv c ws b <;> cases decide (c % 8 ≤ b % 8 ∧ b / 8 < c / 8) <;> rfl
set_option maxRecDepth 100000 in
set_option maxHeartbeats 400000 in
theorem ins_big : ∀ (ws : List Nat) (c : Nat), wk c ws → ∀ b, 56 ≤ b → ins c ws b = false
  | [], _, _, _, _ => rfl
  | w :: ws, c, h, b, hb => by
    obtain ⟨h1, h2, h3, h4⟩ := h
    rw [ins, cpB_big h2 hb, ins_big ws _ h4 b hb]; rfl
/-! edges of a simple way are apart -/
set_option maxRecDepth 100000 in
set_option maxHeartbeats 400000 in
theorem mem_eq {a b : Nat} {l : List Nat} (e : a = b) (h : b ∈ l) : a ∈ l := by rw [e]; exact h
set_option maxRecDepth 100000 in
set_option maxHeartbeats 400000 in
theorem pcs_app : ∀ (ws vs : List Nat) (c : Nat), pcs c (ws ++ vs) = pcs c ws ++ pcs (pe c ws) vs
  | [], _, _ => rfl
  | w :: ws, vs, c => by rw [List.cons_append, pcs, pcs_app ws vs, pcs, pe_c]; rfl
set_option maxRecDepth 100000 in
set_option maxHeartbeats 400000 in
theorem pcs_len : ∀ (ws : List Nat) (c : Nat), (pcs c ws).length = ws.length
  | [], _ => rfl
  | w :: ws, c => by rw [pcs, List.length_cons, pcs_len ws, List.length_cons]
set_option maxRecDepth 100000 in
set_option maxHeartbeats 400000 in
theorem pe_mem : ∀ (ws : List Nat) (c : Nat), ws ≠ [] → pe c ws ∈ pcs c ws
  | [], _, h => absurd rfl h
  | [w], c, _ => by show sx c w ∈ [sx c w]; exact List.mem_singleton.mpr rfl
  | w :: v :: ws, c, _ => by
    rw [pe_c, pcs]
    exact List.mem_cons_of_mem _ (pe_mem (v :: ws) (sx c w) (by simp))
/-! an edge of a way: where it is -/
set_option maxRecDepth 100000 in
set_option maxHeartbeats 400000 in
theorem eks_mem : ∀ (ws : List Nat) (c k : Nat), wk c ws → k ∈ eks c ws → ∃ us v ts, ws = us ++ v :: ts ∧ v < 4 ∧ st7 (pe c us) v = true ∧ k = ek (pe c us) v
  | w :: ws, c, k, h, hk => by
    obtain ⟨h1, h2, h3, h4⟩ := h
    rw [eks] at hk
    rcases List.mem_cons.mp hk with rfl | hk
    · exact ⟨[], w, ws, rfl, h1, h3, rfl⟩
    · obtain ⟨us, v, ts, e1, e2, e3, e4⟩ := eks_mem ws (sx c w) k h4 hk
      exact ⟨w :: us, v, ts, by rw [e1]; rfl, e2, e3, e4⟩
set_option maxRecDepth 100000 in
set_option maxHeartbeats 400000 in
theorem pe_in (us : List Nat) (v : Nat) (ts : List Nat) (c : Nat) : (pe c us = c ∧ us = [] ∨ pe c us ∈ pcs c (us ++ v :: ts)) ∧ sx (pe c us) v ∈ pcs c (us ++ v :: ts) := by
  rw [pcs_app, pcs]
  refine ⟨?_, List.mem_append_right _ (List.mem_cons_self ..)⟩
  cases us with
  | nil => exact Or.inl ⟨rfl, rfl⟩
  | cons u us => exact Or.inr (List.mem_append_left _ (pe_mem (u :: us) c (by simp)))
set_option maxRecDepth 100000 in
set_option maxHeartbeats 400000 in
theorem eks_open : ∀ (ws : List Nat) (c : Nat), wk c ws → (c :: pcs c ws).Nodup → (eks c ws).Nodup
  | [], _, _, _ => List.nodup_nil
  | w :: ws, c, h, hn => by
    obtain ⟨h1, h2, h3, h4⟩ := h
    rw [pcs] at hn
    obtain ⟨hn1, hn2⟩ := List.nodup_cons.mp hn
    rw [eks]
    refine List.nodup_cons.mpr ⟨fun hk => ?_, eks_open ws (sx c w) h4 hn2⟩
    obtain ⟨us, v, ts, e1, e2, e3, e4⟩ := eks_mem ws (sx c w) _ h4 hk
    obtain ⟨p1, p2⟩ := pe_in us v ts (sx c w)
    rw [← e1] at p1 p2
    apply hn1
    rcases st3 h1 e2 h3 e3 e4 with ⟨q1, q2⟩ | ⟨q1, q2⟩
    · rcases p1 with ⟨p1, -⟩ | p1
      · exact mem_eq (q1.trans p1) (List.mem_cons_self ..)
      · exact List.mem_cons_of_mem _ (mem_eq q1 p1)
    · exact List.mem_cons_of_mem _ (mem_eq q1 p2)
set_option maxRecDepth 100000 in
set_option maxHeartbeats 400000 in
theorem eks_shut {ws : List Nat} {c : Nat} (h : wk c ws) (e : pe c ws = c) (hn : (pcs c ws).Nodup) (hl : 3 ≤ ws.length) : (eks c ws).Nodup := by
  cases ws with
  | nil => exact List.nodup_nil
  | cons w ws =>
    obtain ⟨h1, h2, h3, h4⟩ := h
    rw [pcs] at hn
    rw [eks]
    refine List.nodup_cons.mpr ⟨fun hk => ?_, eks_open ws (sx c w) h4 hn⟩
    obtain ⟨us, v, ts, e1, e2, e3, e4⟩ := eks_mem ws (sx c w) _ h4 hk
    obtain ⟨hn1, hn2⟩ := List.nodup_cons.mp hn
    obtain ⟨p1, p2⟩ := pe_in us v ts (sx c w)
    rw [← e1] at p1 p2
    rw [pe_c] at e
    have key : c = sx (pe (sx c w) us) v → sx c w = pe (sx c w) us → False := fun q1 q2 => by
      rcases p1 with ⟨-, p1⟩ | p1
      · subst p1
        rw [List.nil_append] at e1
        rw [pe_n] at q1
        rw [e1, pcs, ← q1] at hn2
        have hts : ts ≠ [] := fun z => by rw [e1, z] at hl; simp at hl
        obtain ⟨g1, -⟩ := List.nodup_cons.mp hn2
        apply g1
        have := pe_mem ts c hts
        rw [e1, pe_c, ← q1] at e
        rwa [e] at this
      · exact hn1 (mem_eq q2 p1)
    rcases st3 h1 e2 h3 e3 e4 with ⟨q1, q2⟩ | ⟨q1, q2⟩
    · exact hn1 (mem_eq q2 p2)
    · exact key q1 q2
set_option maxRecDepth 100000 in
set_option maxHeartbeats 400000 in
theorem xk_nodup : ∀ (es : List Nat) (k : Nat), es.Nodup → xk es k = decide (k ∈ es)
  | [], k, _ => by simp [xk]
  | e :: es, k, h => by
    obtain ⟨h1, h2⟩ := List.nodup_cons.mp h
    rw [xk, xk_nodup es k h2]
    by_cases hk : k = e
    · subst hk
      simp [h1]
    · simp [hk]
set_option maxRecDepth 100000 in
set_option maxHeartbeats 400000 in
theorem pct_ins {p q : Nat → Bool} {e : Nat} (hp : p e = false) : ∀ {n : Nat}, pct (fun k => (decide (k = e) ^^ p k) && q k) n = pct (fun k => p k && q k) n + (if e < n ∧ q e = true then 1 else 0)
  | 0 => by simp [pct]
  | n + 1 => by
    rw [pct, pct, pct_ins hp (n := n)]
    by_cases h : n = e
    · subst h
      rw [hp]
      cases q n <;> simp
    · rw [decide_eq_false h]
      rw [Bool.false_xor]
      by_cases e1 : e < n ∧ q e = true
      · rw [if_pos e1, if_pos (c := e < n + 1 ∧ q e = true) ⟨by omega, e1.2⟩]; omega
      · rw [if_neg e1, if_neg (c := e < n + 1 ∧ q e = true) (fun z => e1 ⟨by omega, z.2⟩)]; omega
def rpk (fr : Nat → Bool) (c : Nat) : List Nat → Nat
  | [] => 0
  | w :: ws => (if fr (ek c w) = true then 0 else 1) + rpk fr (sx c w) ws
set_option maxRecDepth 100000 in
set_option maxHeartbeats 400000 in
theorem rpk_pct (fr : Nat → Bool) : ∀ (ws : List Nat) (c : Nat), wk c ws → (eks c ws).Nodup → rpk fr c ws = pct (fun k => xk (eks c ws) k && !fr k) 128
  | [], _, _, _ => by
    show 0 = pct (fun k => false && !fr k) 128
    rw [pct_sm, sm_0 (fun k _ => by simp)]
  | w :: ws, c, h, hn => by
    obtain ⟨h1, h2, h3, h4⟩ := h
    rw [eks] at hn
    obtain ⟨hn1, hn2⟩ := List.nodup_cons.mp hn
    have hx : xk (eks (sx c w) ws) (ek c w) = false := by rw [xk_nodup _ _ hn2]; exact decide_eq_false hn1
    have hb := (st1 c h2 w h1 h3).2.1
    rw [rpk, rpk_pct fr ws (sx c w) h4 hn2, eks]
    show _ = pct (fun k => (decide (k = ek c w) ^^ xk (eks (sx c w) ws) k) && !fr k) 128
    rw [pct_ins (q := fun k => !fr k) hx]
    cases hf : fr (ek c w) with
    | true => simp
    | false => simp [hb]; omega
set_option maxRecDepth 100000 in
set_option maxHeartbeats 400000 in
theorem pct_2 (p : Nat → Bool) : ∀ n, pct p (2 * n) = pct (fun b => p (2 * b)) n + pct (fun b => p (2 * b + 1)) n
  | 0 => rfl
  | n + 1 => by
    rw [show 2 * (n + 1) = 2 * n + 1 + 1 by omega, pct, pct, pct_2 p n, pct, pct]
    omega
/-! the rope of a ring, counted along the border of what lies in it -/
set_option maxRecDepth 100000 in
set_option maxHeartbeats 400000 in
theorem rpk_border {fr : Nat → Bool} {ws : List Nat} {c : Nat} (h : wk c ws) (e : pe c ws = c) (hn : (pcs c ws).Nodup) (hl : 3 ≤ ws.length) : rpk fr c ws = pct (fun b => bS (ins c ws) b && !fr (2 * b)) 64 + pct (fun b => bE (ins c ws) b && !fr (2 * b + 1)) 64 := by
  rw [rpk_pct fr ws c h (eks_shut h e hn hl), show (128 : Nat) = 2 * 64 from rfl, pct_2]
  congr 1
  · exact pct_cong (fun b hb => by rw [bS_cl h e hb])
  · exact pct_cong (fun b hb => by rw [bE_cl h e hb])
/-! a ring has something in it -/
set_option maxRecDepth 100000 in
set_option maxHeartbeats 400000 in
theorem ins_some {ws : List Nat} {c : Nat} (h : wk c ws) (e : pe c ws = c) (hn : (pcs c ws).Nodup) (hl : 3 ≤ ws.length) : ∃ b, b < 64 ∧ ins c ws b = true := by
  by_cases hx : ∃ b, b < 64 ∧ ins c ws b = true
  · exact hx
  · exfalso
    have h0 : ∀ b, ins c ws b = false := fun b => by
      rcases Nat.lt_or_ge b 64 with hb | hb
      · cases hi : ins c ws b with
        | false => rfl
        | true => exact absurd ⟨b, hb, hi⟩ hx
      · exact ins_big ws c h b (by omega)
    cases ws with
    | nil => simp at hl
    | cons w ws =>
      have hk : xk (eks c (w :: ws)) (ek c w) = true := by
        rw [xk_nodup _ _ (eks_shut h e hn hl)]
        exact decide_eq_true (List.mem_cons_self ..)
      have hb := (st1 c h.2.1 w h.1 h.2.2.1).2.1
      rcases (show ek c w % 2 = 0 ∨ ek c w % 2 = 1 by omega) with hm | hm
      · have := bS_cl h e (b := ek c w / 2) (by omega)
        rw [show 2 * (ek c w / 2) = ek c w by omega, hk] at this
        unfold bS at this
        rw [h0, h0] at this
        simp at this
      · have := bE_cl h e (b := ek c w / 2) (by omega)
        rw [show 2 * (ek c w / 2) + 1 = ek c w by omega, hk] at this
        unfold bE at this
        rw [h0, h0] at this
        simp at this
/-! ground -/
set_option maxRecDepth 100000 in
set_option maxHeartbeats 400000 in
theorem stay7 {g : Nat → Int32} (h1 : qW g ≤ 7) (h2 : qH g ≤ 6) {c w : Nat} (h : stay g c w) : st7 c w = true := by
  unfold stay at h
  exact decide_eq_true (by omega)
set_option maxRecDepth 100000 in
set_option maxHeartbeats 400000 in
theorem inG56 {g : Nat → Int32} (h1 : qW g ≤ 7) (h2 : qH g ≤ 6) {c : Nat} (h : inG g c) : c < 56 := by
  unfold inG at h; omega
set_option maxRecDepth 100000 in
set_option maxHeartbeats 400000 in
theorem stay_in {g : Nat → Int32} (h1 : qW g ≤ 7) {c w : Nat} (hc : inG g c) (h : stay g c w) : inG g (sx c w) := by
  unfold stay at h
  unfold inG at *
  unfold sx
  rcases h with ⟨rfl, h⟩ | ⟨rfl, h⟩ | ⟨rfl, h⟩ | ⟨rfl, h⟩ <;> simp <;> omega
set_option maxRecDepth 100000 in
set_option maxHeartbeats 400000 in
theorem lead_stay {g : Nat → Int32} {c w : Nat} (h : lead g c w = true) : stay g c w ∧ qSt g (sx c w) = false := pB_iff.mp h
set_option maxRecDepth 100000 in
set_option maxHeartbeats 400000 in
theorem walks_wk {g : Nat → Int32} (h1 : qW g ≤ 7) (h2 : qH g ≤ 6) : ∀ (ws : List Nat) (c : Nat), inG g c → walks g c ws → wk c ws
  | [], _, _, _ => trivial
  | w :: ws, c, hc, h => by
    obtain ⟨a1, a2, a3⟩ := h
    have a4 := (lead_stay a2).1
    exact ⟨a1, inG56 h1 h2 hc, stay7 h1 h2 a4, walks_wk h1 h2 ws _ (stay_in h1 hc a4) a3⟩
set_option maxRecDepth 100000 in
set_option maxHeartbeats 400000 in
theorem walks_in {g : Nat → Int32} (h1 : qW g ≤ 7) : ∀ (ws : List Nat) (c : Nat), inG g c → walks g c ws → inG g (pe c ws)
  | [], _, hc, _ => hc
  | w :: ws, c, hc, h => walks_in h1 ws _ (stay_in h1 hc (lead_stay h.2.1).1) h.2.2
set_option maxRecDepth 100000 in
set_option maxHeartbeats 400000 in
theorem walks_app {g : Nat → Int32} : ∀ (ws vs : List Nat) (c : Nat), walks g c (ws ++ vs) ↔ walks g c ws ∧ walks g (pe c ws) vs
  | [], _, _ => by simp [walks, pe]
  | w :: ws, vs, c => by
    rw [List.cons_append, walks, walks, walks_app ws vs, pe_c]
    constructor
    · rintro ⟨a, b, c, d⟩; exact ⟨⟨a, b, c⟩, d⟩
    · rintro ⟨⟨a, b, c⟩, d⟩; exact ⟨a, b, c, d⟩
/-! what lies in a way lies on the ground -/
set_option maxRecDepth 100000 in
set_option maxHeartbeats 400000 in
theorem cpB_isC {g : Nat → Int32} {c w b : Nat} (hc : inG g c) (hs : stay g c w) (h : cpB c w b = true) : isC g b := by
  unfold cpB at h
  unfold stay at hs
  unfold inG at hc
  unfold isC
  simp only [Bool.or_eq_true, Bool.and_eq_true, decide_eq_true_eq] at h
  omega
set_option maxRecDepth 100000 in
set_option maxHeartbeats 400000 in
theorem ins_isC {g : Nat → Int32} (h1 : qW g ≤ 7) : ∀ (ws : List Nat) (c : Nat), inG g c → walks g c ws → ∀ b, ins c ws b = true → isC g b
  | [], _, _, _, b, h => by simp [ins] at h
  | w :: ws, c, hc, hw, b, h => by
    have hs := (lead_stay hw.2.1).1
    rw [ins] at h
    cases hp : cpB c w b with
    | true => exact cpB_isC hc hs hp
    | false =>
      rw [hp, Bool.false_xor] at h
      exact ins_isC h1 ws _ (stay_in h1 hc hs) hw.2.2 b h
/-! the way back -/
def opp (w : Nat) : Nat := (w + 2) % 4
def rv (ws : List Nat) : List Nat := (ws.map opp).reverse
set_option maxRecDepth 100000 in
set_option maxHeartbeats 400000 in
theorem rv_c (w : Nat) (ws : List Nat) : rv (w :: ws) = rv ws ++ [opp w] := by simp [rv]
set_option maxRecDepth 100000 in
set_option maxHeartbeats 400000 in
theorem rv_len (ws : List Nat) : (rv ws).length = ws.length := by simp [rv]
set_option maxRecDepth 100000 in
set_option maxHeartbeats 400000 in
theorem ins_app : ∀ (ws vs : List Nat) (c b : Nat), ins c (ws ++ vs) b = (ins c ws b ^^ ins (pe c ws) vs b)
  | [], vs, c, b => by show ins c vs b = (false ^^ ins c vs b); rw [Bool.false_xor]
  | w :: ws, vs, c, b => by
    rw [List.cons_append, ins, ins_app ws vs, ins, pe_c, Bool.xor_assoc]
set_option maxRecDepth 100000 in
set_option maxHeartbeats 400000 in
theorem rv_pe : ∀ (ws : List Nat) (c : Nat), wk c ws → pe (pe c ws) (rv ws) = c
  | [], _, _ => rfl
  | w :: ws, c, h => by
    obtain ⟨h1, h2, h3, h4⟩ := h
    rw [rv_c, pe_app, show pe c (w :: ws) = pe (sx c w) ws from rfl, rv_pe ws _ h4]
    exact (st1 c h2 w h1 h3).2.2.2.1
set_option maxRecDepth 100000 in
set_option maxHeartbeats 400000 in
theorem rv_ins : ∀ (ws : List Nat) (c : Nat), wk c ws → ∀ b, b < 64 → ins (pe c ws) (rv ws) b = ins c ws b
  | [], _, _, _, _ => rfl
  | w :: ws, c, h, b, hb => by
    obtain ⟨h1, h2, h3, h4⟩ := h
    rw [rv_c, ins_app, show pe c (w :: ws) = pe (sx c w) ws from rfl, rv_ins ws _ h4 b hb, rv_pe ws _ h4]
    show (ins (sx c w) ws b ^^ (cpB (sx c w) (opp w) b ^^ false)) = (cpB c w b ^^ ins (sx c w) ws b)
    rw [Bool.xor_false]
    rw [show cpB (sx c w) (opp w) b = cpB c w b from st2 c h2 w h1 h3 b hb, Bool.xor_comm]
/-! the corners of the way back: the same, the other way round -/
set_option maxRecDepth 100000 in
set_option maxHeartbeats 400000 in
theorem rv_pcs : ∀ (ws : List Nat) (c : Nat), wk c ws → pe c ws :: pcs (pe c ws) (rv ws) = (c :: pcs c ws).reverse
  | [], _, _ => rfl
  | w :: ws, c, h => by
    obtain ⟨h1, h2, h3, h4⟩ := h
    rw [rv_c, pcs_app, show pe c (w :: ws) = pe (sx c w) ws from rfl, rv_pe ws _ h4, ← List.cons_append, rv_pcs ws _ h4]
    rw [show pcs (sx c w) [opp w] = [sx (sx c w) (opp w)] from rfl, show sx (sx c w) (opp w) = c from (st1 c h2 w h1 h3).2.2.2.1]
    rw [pcs]
    simp
