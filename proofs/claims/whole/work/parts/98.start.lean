/-! the law's start: what the abstract machine's context is -/
theorem arr_known {args : Array Value} {s : State} {ty : FieldType} (h : (Cond.arrayClass ty).before args s = true) : ∃ cA : ClassId, ArrOfT s cA ty ∧ s.vm.findClass ("[" ++ ty.toString) = some cA := by
  obtain ⟨cA, kA, comp, h1, h2, h3⟩ := Cond.arrayClass_spec (args := args) (first := s) (o := none) (s := s) (idx := []) h
  exact ⟨cA, fun n z => ⟨fun k h => (by cases h), kA, h2, comp, h3⟩, h1⟩
theorem arrq_known {args : Array Value} {s : State} {C : String} (h : (Cond.arrayOver (.object C)).before args s = true) : ∃ cA : ClassId, ArrOfT s cA (.object C) ∧ va_RA s cA (.object C) := by
  obtain ⟨comp, cA, kA, h1, -, h2, h3, h4⟩ := Cond.arrayOver_spec (args := args) (first := s) (o := none) (s := s) (idx := []) h
  exact ⟨cA, fun n z => ⟨fun k h => (by cases h), kA, h2, comp, h3⟩, kA, comp, h2, h3, h1, h4⟩
def strT (i : Nat) : Term := match i with
  | 0 => .string "RopeRound$Reader" 57
  | 1 => .string "RopeRound$Reader" 73
  | _ => .string "RopeRound$Reader" 78
set_option maxHeartbeats 4000000 in
set_option maxRecDepth 100000 in
theorem start_G {p : Program} {s : State} {m : MethodId} {meth : Method} {c : Code} {b L : Nat} {xs : Nat → Int32} (hL : L ≤ 3072) (C0 : lw_At p s m meth c b L xs) : ∃ G : aG, G.2.2.1 = s.heap.size ∧ G.2.2.2.1 = L ∧ gad G 0 = b ∧ G.2.2.2.2.2.1 = xs ∧ G.2.2.2.2.2.2 = s.heap ∧ gC G s := by
  obtain ⟨hx, hb, hr, hml, hown, hts, hX, hbl, hlocks, hgv⟩ := C0
  have ht := tg_of hts
  have htb := tb_of hts
  have hfl := flat_of_before _ hgv
  have hA : ∀ a : Nat, a < s.heap.size → ¬ s.heap.size ≤ a := fun a h => Nat.not_le.mpr h
  obtain ⟨c0, i0, k0⟩ := u_known (C := RC0) (T := TC0) (N := 6) (n := 6) ht iC0 (ht _ nwC0.1)
  obtain ⟨c1, i1, k1⟩ := u_known (C := RC1) (T := TC1) (N := 8) (n := 8) ht iC1 (ht _ nwC1.1)
  obtain ⟨c2, i2, k2⟩ := u_known (C := RC2) (T := TC2) (N := 7) (n := 7) ht iC2 (ht _ nwC2.1)
  obtain ⟨c3, i3, k3⟩ := u_known (C := RC3) (T := TC3) (N := 13) (n := 13) ht iC3 (ht _ nwC3.1)
  obtain ⟨c4, i4, k4⟩ := u_known (C := RC4) (T := TC4) (N := 4) (n := 4) ht iC4 (ht _ nwC4.1)
  obtain ⟨c5, i5, k5⟩ := u_known (C := RC5) (T := TC5) (N := 6) (n := 6) ht iC5 (ht _ nwC5.1)
  obtain ⟨c6, i6, k6⟩ := u_known (C := RC6) (T := TC6) (N := 3) (n := 3) ht iC6 (ht _ nwC6.1)
  obtain ⟨c7, i7, k7⟩ := u_known (C := RC7) (T := TC7) (N := 5) (n := 5) ht iC7 (ht _ nwC7.1)
  obtain ⟨c8, i8, k8⟩ := u_known (C := RC8) (T := TC8) (N := 3) (n := 3) ht iC8 (ht _ nwC8.1)
  obtain ⟨c10, i10, k10⟩ := u_known (C := RC10) (T := TC10) (N := 12) (n := 12) ht iC10 (ht _ nwC10.1)
  obtain ⟨c11, i11, k11⟩ := u_known (C := RC11) (T := TC11) (N := 37) (n := 37) ht iC11 (ht _ nwC11.1)
  obtain ⟨dC, dI, hKc⟩ : ∃ (dC : Nat → ClassId) (dI : Nat → Nat → Nat), ∀ (k : Nat) (q : vw_C), classes[k]? = some q → u_Kn s q.1 q.2.1 q.2.2 (dC k) (dI k) := by
    refine ⟨fun k => if k = 0 then c0 else if k = 1 then c1 else if k = 2 then c2 else if k = 3 then c3 else if k = 4 then c4 else if k = 5 then c5 else if k = 6 then c6 else if k = 7 then c7 else if k = 8 then c8 else if k = 9 then c0 else if k = 10 then c10 else c11, fun k => if k = 0 then i0 else if k = 1 then i1 else if k = 2 then i2 else if k = 3 then i3 else if k = 4 then i4 else if k = 5 then i5 else if k = 6 then i6 else if k = 7 then i7 else if k = 8 then i8 else if k = 9 then i0 else if k = 10 then i10 else i11, ?_⟩
    intro k q hq
    match k, hq with
    | 0, hq => cases hq; exact k0
    | 1, hq => cases hq; exact k1
    | 2, hq => cases hq; exact k2
    | 3, hq => cases hq; exact k3
    | 4, hq => cases hq; exact k4
    | 5, hq => cases hq; exact k5
    | 6, hq => cases hq; exact k6
    | 7, hq => cases hq; exact k7
    | 8, hq => cases hq; exact k8
    | 9, hq => cases hq; exact k0
    | 10, hq => cases hq; exact k10
    | 11, hq => cases hq; exact k11
    | k + 12, hq => simp [classes] at hq
  obtain ⟨cI, hI1, hI2⟩ := arr_known (ht (.arrayClass .int) (kt 130 (by decide +kernel) (by decide +kernel)))
  obtain ⟨cB, hB1, hB2⟩ := arr_known (ht (.arrayClass .byte) (kt 63 (by decide +kernel) (by decide +kernel)))
  obtain ⟨cZ, hZ1, hZ2⟩ := arr_known (ht (.arrayClass .boolean) (kt 1029 (by decide +kernel) (by decide +kernel)))
  obtain ⟨cJ, hJ1, hJ2⟩ := arr_known (ht (.arrayClass .long) (kt 129 (by decide +kernel) (by decide +kernel)))
  obtain ⟨cR, hR1, hR2⟩ := arrq_known (C := RC6) (htb (.arrayOver (.object RC6)) (kn 29 (by decide +kernel)))
  obtain ⟨cG, hG1, hG2⟩ := arrq_known (C := RC3) (htb (.arrayOver (.object RC3)) (kn 150 (by decide +kernel)))
  obtain ⟨adK, adV, hS, hadK⟩ := vk_Sof (args := #[Value.ref b]) (s := s) (N := 3) (tm := strT) (len := lenF) (byt := bytF) (A := fun q => s.heap.size ≤ q)
    (fun i hi => by rcases (show i = 0 ∨ i = 1 ∨ i = 2 by omega) with rfl | rfl | rfl <;> decide)
    (fun i hi => by rcases (show i = 0 ∨ i = 1 ∨ i = 2 by omega) with rfl | rfl | rfl <;> exact hfl _ (by decide +kernel))
    (fun i hi => by rcases (show i = 0 ∨ i = 1 ∨ i = 2 by omega) with rfl | rfl | rfl <;> exact hfl _ (by decide +kernel))
    (fun i hi => by rcases (show i = 0 ∨ i = 1 ∨ i = 2 by omega) with rfl | rfl | rfl <;> exact hfl _ (by decide +kernel))
    (fun i hi => by rcases (show i = 0 ∨ i = 1 ∨ i = 2 by omega) with rfl | rfl | rfl <;> exact hfl _ (by decide +kernel))
    (fun i hi j hj => by
      rcases (show i = 0 ∨ i = 1 ∨ i = 2 by omega) with rfl | rfl | rfl
      · have hj : j < 3 := hj
        rcases (show j = 0 ∨ j = 1 ∨ j = 2 by omega) with rfl | rfl | rfl <;> exact hfl _ (by decide +kernel)
      · have hj : j < 5 := hj
        rcases (show j = 0 ∨ j = 1 ∨ j = 2 ∨ j = 3 ∨ j = 4 by omega) with rfl | rfl | rfl | rfl | rfl <;> exact hfl _ (by decide +kernel)
      · have hj : j < 3 := hj
        rcases (show j = 0 ∨ j = 1 ∨ j = 2 by omega) with rfl | rfl | rfl <;> exact hfl _ (by decide +kernel))
    (fun i j hi hj hij => by
      rcases (show i = 0 ∨ i = 1 ∨ i = 2 by omega) with rfl | rfl | rfl <;> rcases (show j = 0 ∨ j = 1 ∨ j = 2 by omega) with rfl | rfl | rfl <;> first | exact absurd rfl hij | exact Or.inl (hfl _ (by decide +kernel)) | exact Or.inr (hfl _ (by decide +kernel)))
    hA
  obtain ⟨t1, ht1, hT1⟩ := va_Tof (args := #[Value.ref b]) (s := s) (tm := .static "RopeRound" "STRIDES" "[I") (ty := .int) (N := 4) (f := fun j => .int (strF j)) (A := fun q => s.heap.size ≤ q) (by decide) (hfl _ (by decide +kernel)) (va_eqt (hfl _ (by decide +kernel)))
    (fun j hj => by rcases (show j = 0 ∨ j = 1 ∨ j = 2 ∨ j = 3 by omega) with rfl | rfl | rfl | rfl <;> exact va_eqt (hfl _ (by decide +kernel))) hA
  have hZs := va_Zof (A := fun q => s.heap.size ≤ q) (htb (.laysStatic "RopeRound" "STRIDES" "[I") (kn 589 (by decide +kernel))) (ht (.initialized "RopeRound") (kt 1 (by decide +kernel) (by decide +kernel))) ht1 hA
  have hZc := va_Zof (A := fun q => s.heap.size ≤ q) (v := .int 1) (htb (.laysStatic "java/lang/String" "COMPACT_STRINGS" "Z") (kn 447 (by decide +kernel))) (ht (.initialized "java/lang/String") (kt 14 (by decide +kernel) (by decide +kernel))) (va_eqt (hfl _ (by decide +kernel))) hA
  have hZf := va_Zqof (A := fun q => s.heap.size ≤ q) (htb (.laysStatic "jdk/internal/util/Preconditions" "SIOOBE_FORMATTER" "Ljava/util/function/BiFunction;") (kn 463 (by decide +kernel))) (ht (.initialized "jdk/internal/util/Preconditions") (kt 16 (by decide +kernel) (by decide +kernel))) (hfl _ (by decide +kernel)) hA
  obtain ⟨f0, f1, hfm⟩ : ∃ f0 f1 : Nat, va_Z "jdk/internal/util/Preconditions" "SIOOBE_FORMATTER" "Ljava/util/function/BiFunction;" (if f0 = 0 then .null else .ref f1) (fun q => s.heap.size ≤ q) s s.heap := by
    rcases hZf with h | ⟨t, h⟩
    · exact ⟨0, 0, h⟩
    · exact ⟨1, t, h⟩
  refine ⟨((dC, dI), (fun t => if t = 0 then cI else if t = 1 then cB else if t = 2 then cZ else if t = 3 then cJ else if t = 4 then cR else cG), s.heap.size, L, (fun k => if k = 0 then b else if k = 1 then t1 else if k < 5 then adK (k - 2) else if k < 8 then adV (k - 5) else if k = 100 then f0 else f1), xs, s.heap), rfl, rfl, rfl, rfl, rfl, ?_⟩
  refine ⟨⟨hKc, fun k q hq => ?_⟩, hX, hZs, hT1, ⟨fun i hi => ?_, fun i j hi hj e => ?_⟩, ⟨?_, ?_, ?_⟩, hZc, fun w hw hn => ?_, rfl, hbl, by show L < 2 ^ 31; omega, hfm⟩
  · match k, hq with
    | 0, hq => cases hq; exact ⟨hI1, hI2⟩
    | 1, hq => cases hq; exact ⟨hB1, hB2⟩
    | 2, hq => cases hq; exact ⟨hZ1, hZ2⟩
    | 3, hq => cases hq; exact ⟨hJ1, hJ2⟩
    | 4, hq => cases hq; exact ⟨hR1, hR2⟩
    | 5, hq => cases hq; exact ⟨hG1, hG2⟩
    | k + 6, hq => simp [gtys] at hq
  · rcases (show i = 0 ∨ i = 1 ∨ i = 2 by omega) with rfl | rfl | rfl
    · exact hS.1 0 (by decide)
    · exact hS.1 1 (by decide)
    · exact hS.1 2 (by decide)
  · rcases (show i = 0 ∨ i = 1 ∨ i = 2 by omega) with rfl | rfl | rfl <;> rcases (show j = 0 ∨ j = 1 ∨ j = 2 by omega) with rfl | rfl | rfl <;> first | rfl | exact hS.2 _ _ (by decide) (by decide) e
  · exact vk_R.of (htb (.stringRef "RopeRound$Reader" 57 "row") (kn 429 (by decide +kernel))) (hadK 0 (by decide))
  · exact vk_R.of (htb (.stringRef "RopeRound$Reader" 73 "stone") (kn 507 (by decide +kernel))) (hadK 1 (by decide))
  · exact vk_R.of (htb (.stringRef "RopeRound$Reader" 78 "man") (kn 524 (by decide +kernel))) (hadK 2 (by decide))
  · have z := htb w hw
    match w, hn, z with
    | .methodLinkNest .., _, z => exact va_Nw.of rfl z
    | .fieldLinkNest .., _, z => exact va_Nw.of rfl z
    | .declares .., _, z => exact va_Nw.of rfl z
    | .arrayOver (.object _), _, z => exact va_AO.of z
theorem start_R {G : aG} {L : Nat} {xs : Nat → Int32} {H : Heap} (h1 : G.2.2.2.1 = L) (h2 : G.2.2.2.2.2.1 = xs) (h3 : G.2.2.2.2.2.2 = H) : gR G (oldS L) (hB0 xs) H := by
  refine ⟨fun k q hq => ?_, ?_, fun c h8 hc => ?_, fun q _ => by rw [h3], fun j _ => by rw [h2]; rfl, fun j _ => rfl, fun i hi j hj => ?_⟩
  · have := (List.getElem?_eq_some_iff.mp hq).1
    rw [gW_len] at this
    simp [oldS] at this
  · rw [h1]; rfl
  · simp [oldS] at hc; omega
  · rcases (show i = 0 ∨ i = 1 ∨ i = 2 by omega) with rfl | rfl | rfl <;> rfl
set_option maxHeartbeats 4000000 in
set_option maxRecDepth 100000 in
/-- the claim, out of the abstract machine's answer for the law -/
theorem whole_of {p : Program} {e : Env} {s : State} {m : MethodId} {below : List Frame} {meth : Method} {c : Code} (l : Launch) {b L : Nat} {xs : Nat → Int32} (hL : L ≤ 3072) (C0 : lw_At p s m meth c b L xs) {S' : aS} {h' : aH} (hev : ev 1000 218 0 [.ref 0, .null, .null, .null] [] (oldS L) (hB0 xs) = some (some (.int 1), S', h')) (hc1 : S'.length ≤ 1000) (hs1 : slc S' ≤ 20000) :
    W p l e room_1 s m #[Value.ref b] below meth c s.heap [] 0 0 (lw_Z below #[Value.ref b] s) (entryFrame m ([Value.ref b] : List Value).toArray 4) := by
  obtain ⟨G, g1, g2, g3, g4, g5, hC⟩ := start_G hL C0
  obtain ⟨hx, hb, hr, hml, hown, hts, hX, hbl, hlocks, hgv⟩ := C0
  obtain ⟨k, hk⟩ := evG_run pgT mxT hev
  have hMC : MC G (p, l, e, room_1, s, m, #[Value.ref b], below, meth, c) (mT 218) 8 := by
    refine ⟨hx, hb, hml, hown, tg_of hts, hC, by show s.heap.size + 8 = G.2.2.1 + 8; rw [g1], Nat.le_refl _, fun q _ => by show s.heap[q]? = _; rw [g5], fun hi => ?_⟩
    exact absurd hi (by decide +kernel)
  have hRW : RW G (p, l, e, room_1, s, m, #[Value.ref b], below, meth, c) (mT 218) 8 (slc (oldS L)) (lw_Z below #[Value.ref b] s) (some (.int 1)) S' h' := by
    intro pc hRet H locs Ls cells slots hR hq hc hs
    obtain ⟨hd, -⟩ := hRet
    refine va_forget (fun q h => by have := hq q h; unfold gA at this; rw [g1] at this; exact this) ?_
    refine W.widen (k := 600000) (n := 7302250) (by omega) (by omega) ?_
    exact lw_ret hx hb hr hlocks hd
  have key := sound_body (z1 := slc (oldS L)) (fun m pc op h => (pgT_ok h).1) (fun m pc op h => (pgT_ok h).2) k (fun k' _ d y as S h r hw hr => sound_ct (fun m pc op h => (pgT_ok h).1) (fun m pc op h => (pgT_ok h).2) (fun m _ _ _ => plain_mT m) G l k' d y as S h r hw hr) 1000 218 0 hMC (show 1000 ≤ 2048 by decide) (show 64 * 1000 ≤ 84000 by decide) [.ref 0, .null, .null, .null] [] (oldS L) (hB0 xs) (some (.int 1), S', h') hk (show S'.length ≤ 8 + 600000 by omega) (show slc S' ≤ slc (oldS L) + 7302250 by omega) hRW
  rw [lg_entry_eq]
  have hent := ent_locals (G := G) (mx := 4) [.ref 0] (by rw [lg_len]; decide)
  have e1 : ([Value.ref 0] : List Value).map (gv G) = [Value.ref b] := by show [Value.ref (gad G 0)] = _; rw [g3]
  rw [e1] at hent
  exact key s.heap [] _ 0 0 (start_R g2 g4 g5) hent (fun _ h => by cases h) rfl rfl
