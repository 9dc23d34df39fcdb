/-! the ground, as the reference keeps it: an array g; what is read off it -/
def qW (g : Nat → Int32) : Nat := (g 0).toNatClampNeg
def qH (g : Nat → Int32) : Nat := (g 1).toNatClampNeg
def qM (g : Nat → Int32) : Nat := (g 3).toNatClampNeg
/-- cells and corners are bits: x + 8 y -/
def qCl (g : Nat → Int32) (b : Nat) : Int32 := g (4 + 7 * (b / 8) + b % 8)
def isC (g : Nat → Int32) (b : Nat) : Prop := b % 8 < qW g ∧ b / 8 < qH g
def inG (g : Nat → Int32) (c : Nat) : Prop := c % 8 ≤ qW g ∧ c / 8 ≤ qH g
noncomputable def pB (p : Prop) : Bool := @decide p (Classical.propDecidable p)
theorem pB_t {p : Prop} (h : p) : pB p = true := by unfold pB; exact @decide_eq_true _ (_) h
theorem pB_f {p : Prop} (h : ¬ p) : pB p = false := by unfold pB; exact @decide_eq_false _ (_) h
theorem pB_iff {p : Prop} : pB p = true ↔ p := by
  unfold pB
  constructor
  · intro h; exact @of_decide_eq_true _ (_) h
  · intro h; exact @decide_eq_true _ (_) h
theorem pB_nf {p : Prop} : pB p = false ↔ ¬ p := by
  unfold pB
  constructor
  · intro h; exact @of_decide_eq_false _ (_) h
  · intro h; exact @decide_eq_false _ (_) h
theorem pB_dec {p : Prop} {i : Decidable p} : pB p = @decide p i := by
  by_cases h : p
  · rw [pB_t h, decide_eq_true h]
  · rw [pB_f h, decide_eq_false h]
noncomputable def qWat (g : Nat → Int32) (b : Nat) : Bool := pB (isC g b ∧ qCl g b = mO)
noncomputable def qWor (g : Nat → Int32) (b : Nat) : Nat := @ite _ (isC g b ∧ ¬ qCl g b = mO) (Classical.propDecidable _) (qCl g b).toNatClampNeg 0
noncomputable def qSt (g : Nat → Int32) (b : Nat) : Bool := pB (b < 56 ∧ g (46 + b) = nI 1)
def qP (g : Nat → Int32) (m : Nat) : Nat := (g (102 + 2 * m)).toNatClampNeg
def qL (g : Nat → Int32) (m : Nat) : Nat := (g (103 + 2 * m)).toNatClampNeg
def qK (g : Nat → Int32) (m : Nat) : Nat := (g (110 + 21 * m)).toNatClampNeg
noncomputable def qY (g : Nat → Int32) (m : Nat) : List Nat := @ite _ (g (110 + 21 * m) < nI 0) (Classical.propDecidable _) [] ((List.range (qK g m)).map fun k => (g (111 + 21 * m + k)).toNatClampNeg)
/-! steps: 0 north, 1 east, 2 south, 3 west -/
def sx (c w : Nat) : Nat := if w = 0 then c - 8 else if w = 1 then c + 1 else if w = 2 then c + 8 else c - 1
def stay (g : Nat → Int32) (c w : Nat) : Prop := (w = 0 ∧ 8 ≤ c) ∨ (w = 1 ∧ c % 8 < qW g) ∨ (w = 2 ∧ c / 8 < qH g) ∨ (w = 3 ∧ 0 < c % 8)
noncomputable def lead (g : Nat → Int32) (c w : Nat) : Bool := pB (stay g c w ∧ qSt g (sx c w) = false)
/-- where a way ends; the corners it comes to, the first one not among them -/
def pe (c : Nat) (ws : List Nat) : Nat := ws.foldl sx c
def pcs (c : Nat) : List Nat → List Nat
  | [] => []
  | w :: ws => sx c w :: pcs (sx c w) ws
/-- the cells north of a step to the east or the west -/
def cpB (c w b : Nat) : Bool := (decide (w = 1) && decide (b % 8 = c % 8 ∧ b / 8 < c / 8)) || (decide (w = 3) && decide (b % 8 = (c - 1) % 8 ∧ b / 8 < (c - 1) / 8))
/-- the cells in a way: those passed an odd number of times -/
def ins (c : Nat) : List Nat → Nat → Bool
  | [], _ => false
  | w :: ws, b => cpB c w b ^^ ins (sx c w) ws b
/-- every step of a way leads somewhere -/
def walks (g : Nat → Int32) (c : Nat) : List Nat → Prop
  | [] => True
  | w :: ws => w < 4 ∧ lead g c w = true ∧ walks g (sx c w) ws
/-- a ring from a corner -/
def isRing (g : Nat → Int32) (c : Nat) (ws : List Nat) : Prop := inG g c ∧ walks g c ws ∧ pe c ws = c ∧ (pcs c ws).Nodup ∧ 4 ≤ ws.length
/-- the border of a set of cells, by the first corner of its steps to the east and to the south -/
def bE (f : Nat → Bool) (b : Nat) : Bool := f b ^^ (decide (8 ≤ b) && f (b - 8))
def bS (f : Nat → Bool) (b : Nat) : Bool := f b ^^ (decide (1 ≤ b) && f (b - 1))
noncomputable def anyM (n : Nat) (f : Nat → Bool) : Bool := pB (∃ m, m < n ∧ f m = true)
noncomputable def rgd (g : Nat → Int32) (b : Nat) : Bool := anyM (qM g) fun m => ins (qP g m) (qY g m) b
noncomputable def fE (g : Nat → Int32) (b : Nat) : Bool := bE (qWat g) b || anyM (qM g) fun m => bE (ins (qP g m) (qY g m)) b
noncomputable def fS (g : Nat → Int32) (b : Nat) : Bool := bS (qWat g) b || anyM (qM g) fun m => bS (ins (qP g m) (qY g m)) b
/-- who has the cell -/
noncomputable def own (g : Nat → Int32) (b : Nat) : Option Nat := (List.range (qM g)).find? fun m => ins (qP g m) (qY g m) b
def nNo : Int32 := -1000000
/-- what a ground is like -/
def wfG (g : Nat → Int32) : Prop :=
  (g 0 = nI (qW g) ∧ qW g ≤ 7) ∧ (g 1 = nI (qH g) ∧ qH g ≤ 6) ∧ (g 3 = nI (qM g) ∧ qM g ≤ 4) ∧ (qM g = 0 → qW g = 0 ∧ qH g = 0) ∧ (0 < qM g → 0 < qW g ∧ 0 < qH g) ∧
  (∀ b, isC g b → qCl g b = mO ∨ ∃ w, w ≤ 9 ∧ qCl g b = nI w) ∧
  (∀ b, b < 56 → g (46 + b) = nI 0 ∨ (g (46 + b) = nI 1 ∧ inG g b)) ∧
  (∀ m, m < qM g → (g (102 + 2 * m) = nI (qP g m) ∧ inG g (qP g m) ∧ qSt g (qP g m) = false) ∧ (g (103 + 2 * m) = nI (qL g m) ∧ qL g m ≤ 12)) ∧
  (∀ m, m < qM g → g (110 + 21 * m) = mO ∨ (g (110 + 21 * m) = nI (qK g m) ∧ 4 ≤ qK g m ∧ qK g m ≤ 20 ∧ (∀ k, k < qK g m → ∃ w, w < 4 ∧ g (111 + 21 * m + k) = nI w) ∧ isRing g (qP g m) (qY g m))) ∧
  (∀ m n, m < qM g → n < qM g → m ≠ n → ∀ b, ins (qP g m) (qY g m) b = true → ins (qP g n) (qY g n) b = false)
/-- how the class keeps it, at cell c -/
def GC (h : aH) (c : Nat) (g : Nat → Int32) : Prop :=
  (h.1 c 0 = g 0 ∧ h.1 c 1 = g 1 ∧ h.1 c 2 = g 3) ∧ (∀ b, b < 64 → lb (h.2.1 c 3) b = qWat g b) ∧ (∀ b, b < 64 → lb (h.2.1 c 4) b = qSt g b) ∧
  (∀ i, i < 4 → ∀ b, b < 64 → lb (h.2.1 (c + 1) i) b = (qWor g b).testBit i) ∧
  (∀ m, m < qM g → h.1 (c + 2) m = g (102 + 2 * m) ∧ h.1 (c + 3) m = g (103 + 2 * m)) ∧
  (∀ m, m < qM g → ∀ b, b < 64 → lb (h.2.1 (c + 4) m) b = ins (qP g m) (qY g m) b) ∧
  (∀ w, w < 4 → ∀ b, inG g b → lb (h.2.1 (c + 5) w) b = lead g b w) ∧
  (∀ b, b < 64 → lb (h.2.1 c 10) b = rgd g b) ∧ (∀ b, b < 64 → lb (h.2.1 c 11) b = fE g b) ∧ (∀ b, b < 64 → lb (h.2.1 c 12) b = fS g b)
/-- what the reference keeps beside it -/
def GD (h : aH) (g : Nat → Int32) : Prop :=
  (h.1 68 7 = if qM g = 0 then nI 0 else nI 1) ∧
  (∀ c w, inG g c → stay g c w → h.1 75 (4 * c + w) = if (anyM (qM g) fun m => if w % 2 = 1 then bE (ins (qP g m) (qY g m)) (if w = 1 then c else c - 1) else bS (ins (qP g m) (qY g m)) (if w = 2 then c else c - 8)) = true then nI 1 else nI 0) ∧
  (∀ b, isC g b → h.1 76 (7 * (b / 8) + b % 8) = match own g b with
    | some m => nI m
    | none => nNo) ∧
  (∀ b, isC g b → lb (h.2.1 68 20) (7 * (b / 8) + b % 8) = rgd g b)
/-! all ways that shut at a corner, in order; their ropes and worths; the best for a rope -/
def ds (a b : Nat) : Nat := (a % 8 - b % 8) + (b % 8 - a % 8) + ((a / 8 - b / 8) + (b / 8 - a / 8))
noncomputable def clr (g : Nat → Int32) (c : Nat) (ws : List Nat) : Prop := ∀ b, b < 64 → ins c ws b = true → rgd g b = false
noncomputable def dfs (g : Nat → Int32) (o : Nat) : Nat → Nat → List Nat → List Nat → List (List Nat)
  | 0, _, _, _ => []
  | n + 1, c, bn, ws => (List.range 4).flatMap fun w =>
    br (lead g c w = true) (br (sx c w = o) (br (4 ≤ ws.length + 1 ∧ clr g o (ws ++ [w])) [ws ++ [w]] []) (br (sx c w ∉ bn ∧ ds (sx c w) o ≤ n) (dfs g o n (sx c w) (sx c w :: bn) (ws ++ [w])) [])) []
/-- the rope that a step takes -/
noncomputable def tk (g : Nat → Int32) (c w : Nat) : Nat := if (if w % 2 = 1 then fE g (if w = 1 then c else c - 1) else fS g (if w = 2 then c else c - 8)) = true then 0 else 1
noncomputable def rp (g : Nat → Int32) (c : Nat) : List Nat → Nat
  | [] => 0
  | w :: ws => tk g c w + rp g (sx c w) ws
/-- what a set of cells is worth -/
noncomputable def wth (g : Nat → Int32) (f : Nat → Bool) : Nat → Nat
  | 0 => 0
  | n + 1 => wth g f n + if f n = true then qWor g n else 0
noncomputable def wo (g : Nat → Int32) (c : Nat) (ws : List Nat) : Nat := wth g (ins c ws) 64
noncomputable def bst (g : Nat → Int32) (c l : Nat) (o : Option (List Nat)) (ws : List Nat) : Option (List Nat) := br (rp g c ws ≤ l ∧ ∀ vs, o = some vs → wo g c vs < wo g c ws) (some ws) o
noncomputable def bestOf (g : Nat → Int32) (c l : Nat) (rs : List (List Nat)) : Option (List Nat) := rs.foldl (bst g c l) none
/-- ways in a long, two bits each -/
def pkW (ws : List Nat) (i : Nat) : Bool := (ws.getD (i / 2) 0).testBit (i % 2)
def tbl (h : aH) (g : Nat → Int32) (c : Nat) : Prop := ∀ l, l ≤ 12 → match bestOf g c l (dfs g c 12 c [c] []) with
  | none => h.1 28 (13 * c + l) = nNo ∧ h.1 29 (13 * c + l) = nI 0
  | some ws => h.1 28 (13 * c + l) = nI (wo g c ws) ∧ h.1 29 (13 * c + l) = nI ws.length ∧ ∀ i, i < 64 → lb (h.2.1 30 (13 * c + l)) i = pkW ws i
/-! the invariant, part by part -/
def IR (h : aH) : Prop := ∀ r, r < 8 → h.1 (40 + 2 * r) 1 = h.1 69 r ∧ (h.1 69 r = mO ∨ (∃ l n, l < 3 ∧ n ≤ 40 ∧ h.1 69 r = nI l ∧ h.1 70 r = nI n ∧ h.1 (40 + 2 * r) 2 = nI n)) ∧ ∀ i, i < 40 → h.1 (41 + 2 * r) i = h.1 71 (40 * r + i)
def IF (h : aH) : Prop := h.1 8 10 = h.1 68 1 ∧ h.1 8 11 = h.1 68 10
def IT (h : aH) : Prop := ∃ n, n ≤ 300 ∧ h.1 11 1 = nI n ∧ h.1 68 9 = nI n ∧ ∀ i, i < n → ∃ b, b < 256 ∧ h.1 74 i = nI b ∧ h.1 12 i = (nI b).toInt8.toInt32
def IA (h : aH) : Prop := ∃ n, n ≤ 16 ∧ h.1 38 1 = nI n ∧ h.1 68 36 = nI n ∧ ∀ i, i < n → h.1 39 i = h.1 89 i
def IC (h : aH) : Prop := (∀ k, h.1 1 k = strF k) ∧ (∀ k, h.1 5 k = (bytF.getD 0 []).getD k 0) ∧ (∀ k, h.1 6 k = (bytF.getD 1 []).getD k 0) ∧ (∀ k, h.1 7 k = (bytF.getD 2 []).getD k 0)
def IG (h : aH) : Prop := wfG (h.1 72) ∧ GC h 19 (h.1 72) ∧ GD h (h.1 72)
def IM (h : aH) : Prop := ∀ k, k < 2 → (h.1 87 k = nI 0 ∧ h.1 (56 + 6 * k) 2 = nI 0) ∨ (h.1 87 k = nI 1 ∧ 0 < qM (fun i => h.1 88 (194 * k + i)) ∧ wfG (fun i => h.1 88 (194 * k + i)) ∧ GC h (56 + 6 * k) (fun i => h.1 88 (194 * k + i)))
def IB (h : aH) : Prop := (∀ c, c < 64 → lb (h.2.1 27 6) c = true → tbl h (h.1 72) c) ∧ ∀ k, k < 2 → h.1 87 k = nI 1 → h.1 68 7 = nI 1
/-- two heaps that are alike where D says -/
def Sam (D : Nat → Nat → Prop) (h h' : aH) : Prop := ∀ c k, D c k → h'.1 c k = h.1 c k ∧ h'.2.1 c k = h.2.1 c k
def dR (c _k : Nat) : Prop := (40 ≤ c ∧ c < 56) ∨ (69 ≤ c ∧ c < 72)
def dF (c k : Nat) : Prop := (c = 8 ∧ (k = 10 ∨ k = 11)) ∨ (c = 68 ∧ (k = 1 ∨ k = 10))
def dT (c k : Nat) : Prop := (c = 11 ∧ k = 1) ∨ c = 12 ∨ c = 74 ∨ (c = 68 ∧ k = 9)
def dA (c k : Nat) : Prop := (c = 38 ∧ k = 1) ∨ c = 39 ∨ c = 89 ∨ (c = 68 ∧ k = 36)
def dC (c _k : Nat) : Prop := c = 1 ∨ c = 5 ∨ c = 6 ∨ c = 7
def dG (c k : Nat) : Prop := (19 ≤ c ∧ c < 25) ∨ c = 72 ∨ c = 75 ∨ c = 76 ∨ (c = 68 ∧ (k = 7 ∨ k = 20))
def dM (c _k : Nat) : Prop := (56 ≤ c ∧ c < 68) ∨ c = 87 ∨ c = 88
def dB (c k : Nat) : Prop := (c = 27 ∧ k = 6) ∨ (28 ≤ c ∧ c < 31) ∨ c = 72 ∨ c = 87 ∨ (c = 68 ∧ k = 7)
theorem IR_of {h h' : aH} (e : Sam dR h h') (H : IR h) : IR h' := by
  intro r hr
  obtain ⟨a, b, c⟩ := H r hr
  have e1 := (e (40 + 2 * r) 1 (by unfold dR; omega)).1
  have e2 := (e 69 r (by unfold dR; omega)).1
  have e3 := (e 70 r (by unfold dR; omega)).1
  have e4 := (e (40 + 2 * r) 2 (by unfold dR; omega)).1
  refine ⟨by rw [e1, e2, a], ?_, fun i hi => ?_⟩
  · rw [e2, e3, e4]; exact b
  · rw [(e (41 + 2 * r) i (by unfold dR; omega)).1, (e 71 (40 * r + i) (by unfold dR; omega)).1]; exact c i hi
theorem IF_of {h h' : aH} (e : Sam dF h h') (H : IF h) : IF h' := by
  unfold IF
  rw [(e 8 10 (by unfold dF; omega)).1, (e 8 11 (by unfold dF; omega)).1, (e 68 1 (by unfold dF; omega)).1, (e 68 10 (by unfold dF; omega)).1]
  exact H
theorem IT_of {h h' : aH} (e : Sam dT h h') (H : IT h) : IT h' := by
  obtain ⟨n, a, b, c, d⟩ := H
  refine ⟨n, a, by rw [(e 11 1 (by unfold dT; omega)).1, b], by rw [(e 68 9 (by unfold dT; omega)).1, c], fun i hi => ?_⟩
  rw [(e 74 i (by unfold dT; omega)).1, (e 12 i (by unfold dT; omega)).1]
  exact d i hi
theorem IA_of {h h' : aH} (e : Sam dA h h') (H : IA h) : IA h' := by
  obtain ⟨n, a, b, c, d⟩ := H
  refine ⟨n, a, by rw [(e 38 1 (by unfold dA; omega)).1, b], by rw [(e 68 36 (by unfold dA; omega)).1, c], fun i hi => ?_⟩
  rw [(e 39 i (by unfold dA; omega)).1, (e 89 i (by unfold dA; omega)).1]
  exact d i hi
theorem IC_of {h h' : aH} (e : Sam dC h h') (H : IC h) : IC h' := by
  obtain ⟨a, b, c, d⟩ := H
  exact ⟨fun k => by rw [(e 1 k (by unfold dC; omega)).1, a], fun k => by rw [(e 5 k (by unfold dC; omega)).1, b], fun k => by rw [(e 6 k (by unfold dC; omega)).1, c], fun k => by rw [(e 7 k (by unfold dC; omega)).1, d]⟩
theorem GC_of {h h' : aH} {c : Nat} {g : Nat → Int32} (e : ∀ c' k, c ≤ c' → c' < c + 6 → h'.1 c' k = h.1 c' k ∧ h'.2.1 c' k = h.2.1 c' k) (H : GC h c g) : GC h' c g := by
  unfold GC at H ⊢
  rw [(e c 0 (by omega) (by omega)).1, (e c 1 (by omega) (by omega)).1, (e c 2 (by omega) (by omega)).1, (e c 3 (by omega) (by omega)).2, (e c 4 (by omega) (by omega)).2, (e c 10 (by omega) (by omega)).2, (e c 11 (by omega) (by omega)).2, (e c 12 (by omega) (by omega)).2]
  obtain ⟨a1, a2, a3, a4, a5, a6, a7, a8, a9, a10⟩ := H
  refine ⟨a1, a2, a3, fun i hi b hb => ?_, fun m hm => ?_, fun m hm b hb => ?_, fun w hw b hb => ?_, a8, a9, a10⟩
  · rw [(e (c + 1) i (by omega) (by omega)).2]; exact a4 i hi b hb
  · rw [(e (c + 2) m (by omega) (by omega)).1, (e (c + 3) m (by omega) (by omega)).1]; exact a5 m hm
  · rw [(e (c + 4) m (by omega) (by omega)).2]; exact a6 m hm b hb
  · rw [(e (c + 5) w (by omega) (by omega)).2]; exact a7 w hw b hb
theorem IG_of {h h' : aH} (e : Sam dG h h') (H : IG h) : IG h' := by
  obtain ⟨a, b, c1, c2, c3, c4⟩ := H
  have e1 : h'.1 72 = h.1 72 := funext fun k => (e 72 k (by unfold dG; omega)).1
  unfold IG
  rw [e1]
  refine ⟨a, GC_of (fun c' k h1 h2 => e c' k (by unfold dG; omega)) b, ?_, fun c w h1 h2 => ?_, fun b hb => ?_, fun b hb => ?_⟩
  · rw [(e 68 7 (by unfold dG; omega)).1]; exact c1
  · rw [(e 75 _ (by unfold dG; omega)).1]; exact c2 c w h1 h2
  · rw [(e 76 _ (by unfold dG; omega)).1]; exact c3 b hb
  · rw [(e 68 20 (by unfold dG; omega)).2]; exact c4 b hb
theorem IM_of {h h' : aH} (e : Sam dM h h') (H : IM h) : IM h' := by
  intro k hk
  have e1 : (fun i => h'.1 88 (194 * k + i)) = (fun i => h.1 88 (194 * k + i)) := funext fun i => (e 88 _ (by unfold dM; omega)).1
  rw [e1, (e 87 k (by unfold dM; omega)).1, (e (56 + 6 * k) 2 (by unfold dM; omega)).1]
  rcases H k hk with x | ⟨x, y, z, t⟩
  · exact Or.inl x
  · exact Or.inr ⟨x, y, z, GC_of (fun c' q h1 h2 => e c' q (by unfold dM; omega)) t⟩
theorem IB_of {h h' : aH} (e : Sam dB h h') (H : IB h) : IB h' := by
  refine ⟨fun c hc hl => ?_, fun k hk => ?_⟩
  · rw [(e 27 6 (by unfold dB; omega)).2] at hl
    have e1 : h'.1 72 = h.1 72 := funext fun k => (e 72 k (by unfold dB; omega)).1
    have e2 : h'.1 28 = h.1 28 := funext fun k => (e 28 k (by unfold dB; omega)).1
    have e3 : h'.1 29 = h.1 29 := funext fun k => (e 29 k (by unfold dB; omega)).1
    have e4 : h'.2.1 30 = h.2.1 30 := funext fun k => (e 30 k (by unfold dB; omega)).2
    have := H.1 c hc hl
    unfold tbl at this ⊢
    rw [e1, e2, e3, e4]
    exact this
  · rw [(e 87 k (by unfold dB; omega)).1, (e 68 7 (by unfold dB; omega)).1]
    exact H.2 k hk
def Inv (h : aH) : Prop := IR h ∧ IF h ∧ IT h ∧ IA h ∧ IC h ∧ IG h ∧ IM h ∧ IB h
