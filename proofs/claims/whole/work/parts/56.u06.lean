theorem u205_0 (d : Nat) (v0 v1 v3 : Value) (x : Int32) (st : List Value) (S : aS) (h : aH) : ev d 205 0 [v0, v1, .int x, v3] st S h = ev d 205 1 [v0, v1, .int x, v3] (.int x :: st) S h := u_LdI rfl rfl d st S h
theorem u205_1 (d : Nat) (ls st : List Value) (S : aS) (h : aH) : ev d 205 1 ls st S h = ev d 205 2 ls (.int 2 :: st) S h := u_Push rfl d ls st S h
theorem u205_2 (d : Nat) (ls : List Value) (y x : Int32) (st : List Value) (S : aS) (h : aH) : ev d 205 2 ls (.int y :: .int x :: st) S h = br (¬ x = y) (ev d 205 11 ls st S h) (ev d 205 5 ls st S h) := u_Ic (P := fun x y => ¬ x = y) rfl d ls y x st S h
theorem u205_5 (d : Nat) (v1 v2 v3 : Value) (x : Nat) (st : List Value) (S : aS) (h : aH) : ev d 205 5 [.ref x, v1, v2, v3] st S h = ev d 205 6 [.ref x, v1, v2, v3] (.ref x :: st) S h := u_LdA rfl rfl d st S h
theorem u205_6 (d : Nat) (v0 v2 v3 : Value) (x : Int32) (st : List Value) (S : aS) (h : aH) : ev d 205 6 [v0, .int x, v2, v3] st S h = ev d 205 7 [v0, .int x, v2, v3] (.int x :: st) S h := u_LdI rfl rfl d st S h
theorem u205_7 (d : Nat) (ls : List Value) (a0 : Value) (c : Nat) (st : List Value) (S : aS) (h : aH) : ev (d + 1) 205 7 ls (a0 :: .ref c :: st) S h = gd (aK S c = 11) (gd (cs st ≤ 8) ((call d 203 [.ref c, a0] S h).bind fun r => ev (d + 1) 205 10 ls (r.1.toList ++ st) r.2.1 r.2.2)) := u_CalV1 (as := [a0]) rfl rfl d ls c st S h
theorem u205_10 (d : Nat) (ls : List Value) (x : Int32) (S : aS) (h : aH) : ev d 205 10 ls [.int x] S h = some (some (.int x), S, h) := u_RetI rfl d ls x S h
theorem u205_11 (d : Nat) (v0 v1 v3 : Value) (x : Int32) (st : List Value) (S : aS) (h : aH) : ev d 205 11 [v0, v1, .int x, v3] st S h = ev d 205 12 [v0, v1, .int x, v3] (.int x :: st) S h := u_LdI rfl rfl d st S h
theorem u205_12 (d : Nat) (ls st : List Value) (S : aS) (h : aH) : ev d 205 12 ls st S h = ev d 205 13 ls (.int 5 :: st) S h := u_Push rfl d ls st S h
theorem u205_13 (d : Nat) (ls : List Value) (y x : Int32) (st : List Value) (S : aS) (h : aH) : ev d 205 13 ls (.int y :: .int x :: st) S h = br (¬ x = y) (ev d 205 22 ls st S h) (ev d 205 16 ls st S h) := u_Ic (P := fun x y => ¬ x = y) rfl d ls y x st S h
theorem u205_16 (d : Nat) (v1 v2 v3 : Value) (x : Nat) (st : List Value) (S : aS) (h : aH) : ev d 205 16 [.ref x, v1, v2, v3] st S h = ev d 205 17 [.ref x, v1, v2, v3] (.ref x :: st) S h := u_LdA rfl rfl d st S h
theorem u205_17 (d : Nat) (ls st : List Value) (S : aS) (h : aH) : ev d 205 17 ls st S h = ev d 205 19 ls (.int 14 :: st) S h := u_Push rfl d ls st S h
theorem u205_19 (d : Nat) (ls : List Value) (a0 : Value) (c : Nat) (st : List Value) (S : aS) (h : aH) : ev (d + 1) 205 19 ls (a0 :: .ref c :: st) S h = gd (aK S c = 11) (gd (cs st ≤ 8) ((call d 202 [.ref c, a0] S h).bind fun r => ev (d + 1) 205 22 ls (r.1.toList ++ st) r.2.1 r.2.2)) := u_CalV1 (as := [a0]) rfl rfl d ls c st S h
theorem u205_22 (d : Nat) (v0 v1 v3 : Value) (x : Int32) (st : List Value) (S : aS) (h : aH) : ev d 205 22 [v0, v1, .int x, v3] st S h = ev d 205 23 [v0, v1, .int x, v3] (.int x :: st) S h := u_LdI rfl rfl d st S h
theorem u205_23 (d : Nat) (ls st : List Value) (S : aS) (h : aH) : ev d 205 23 ls st S h = ev d 205 24 ls (.int 1 :: st) S h := u_Push rfl d ls st S h
theorem u205_24 (d : Nat) (ls : List Value) (y x : Int32) (st : List Value) (S : aS) (h : aH) : ev d 205 24 ls (.int y :: .int x :: st) S h = br (x = y) (ev d 205 43 ls st S h) (ev d 205 27 ls st S h) := u_Ic (P := fun x y => x = y) rfl d ls y x st S h
theorem u205_27 (d : Nat) (v1 v2 v3 : Value) (x : Nat) (st : List Value) (S : aS) (h : aH) : ev d 205 27 [.ref x, v1, v2, v3] st S h = ev d 205 28 [.ref x, v1, v2, v3] (.ref x :: st) S h := u_LdA rfl rfl d st S h
theorem u205_28 (d : Nat) (v0 v1 v3 : Value) (x : Int32) (st : List Value) (S : aS) (h : aH) : ev d 205 28 [v0, v1, .int x, v3] st S h = ev d 205 29 [v0, v1, .int x, v3] (.int x :: st) S h := u_LdI rfl rfl d st S h
theorem u205_29 (d : Nat) (ls st : List Value) (S : aS) (h : aH) : ev d 205 29 ls st S h = ev d 205 30 ls (.int 4 :: st) S h := u_Push rfl d ls st S h
theorem u205_30 (d : Nat) (ls : List Value) (y x : Int32) (st : List Value) (S : aS) (h : aH) : ev d 205 30 ls (.int y :: .int x :: st) S h = br (¬ x = y) (ev d 205 38 ls st S h) (ev d 205 33 ls st S h) := u_Ic (P := fun x y => ¬ x = y) rfl d ls y x st S h
theorem u205_33 (d : Nat) (ls st : List Value) (S : aS) (h : aH) : ev d 205 33 ls st S h = ev d 205 35 ls (.int 13 :: st) S h := u_Push rfl d ls st S h
theorem u205_35 (d : Nat) (ls st : List Value) (S : aS) (h : aH) : ev d 205 35 ls st S h = ev d 205 40 ls st S h := u_Go rfl d ls st S h
theorem u205_38 (d : Nat) (ls st : List Value) (S : aS) (h : aH) : ev d 205 38 ls st S h = ev d 205 40 ls (.int 12 :: st) S h := u_Push rfl d ls st S h
theorem u205_40 (d : Nat) (ls : List Value) (a0 : Value) (c : Nat) (st : List Value) (S : aS) (h : aH) : ev (d + 1) 205 40 ls (a0 :: .ref c :: st) S h = gd (aK S c = 11) (gd (cs st ≤ 8) ((call d 202 [.ref c, a0] S h).bind fun r => ev (d + 1) 205 43 ls (r.1.toList ++ st) r.2.1 r.2.2)) := u_CalV1 (as := [a0]) rfl rfl d ls c st S h
theorem u205_43 (d : Nat) (v1 v2 v3 : Value) (x : Nat) (st : List Value) (S : aS) (h : aH) : ev d 205 43 [.ref x, v1, v2, v3] st S h = ev d 205 44 [.ref x, v1, v2, v3] (.ref x :: st) S h := u_LdA rfl rfl d st S h
theorem u205_44 (d : Nat) (ls st : List Value) (S : aS) (h : aH) : ev d 205 44 ls st S h = ev d 205 46 ls (.int 11 :: st) S h := u_Push rfl d ls st S h
theorem u205_46 (d : Nat) (ls : List Value) (a0 : Value) (c : Nat) (st : List Value) (S : aS) (h : aH) : ev (d + 1) 205 46 ls (a0 :: .ref c :: st) S h = gd (aK S c = 11) (gd (cs st ≤ 8) ((call d 202 [.ref c, a0] S h).bind fun r => ev (d + 1) 205 49 ls (r.1.toList ++ st) r.2.1 r.2.2)) := u_CalV1 (as := [a0]) rfl rfl d ls c st S h
theorem u205_49 (d : Nat) (v1 v2 v3 : Value) (x : Nat) (st : List Value) (S : aS) (h : aH) : ev d 205 49 [.ref x, v1, v2, v3] st S h = ev d 205 50 [.ref x, v1, v2, v3] (.ref x :: st) S h := u_LdA rfl rfl d st S h
theorem u205_50 (d : Nat) (v0 v2 v3 : Value) (x : Int32) (st : List Value) (S : aS) (h : aH) : ev d 205 50 [v0, .int x, v2, v3] st S h = ev d 205 51 [v0, .int x, v2, v3] (.int x :: st) S h := u_LdI rfl rfl d st S h
theorem u205_51 (d : Nat) (ls : List Value) (a0 : Value) (c : Nat) (st : List Value) (S : aS) (h : aH) : ev (d + 1) 205 51 ls (a0 :: .ref c :: st) S h = gd (aK S c = 11) (gd (cs st ≤ 8) ((call d 203 [.ref c, a0] S h).bind fun r => ev (d + 1) 205 54 ls (r.1.toList ++ st) r.2.1 r.2.2)) := u_CalV1 (as := [a0]) rfl rfl d ls c st S h
theorem u205_54 (d : Nat) (ls : List Value) (x : Int32) (st : List Value) (S : aS) (h : aH) : ev d 205 54 ls (.int x :: st) S h = ev d 205 55 (lset1 ls 3 (.int x)) st S h := u_StI rfl d ls x st S h
theorem u205_55 (d : Nat) (v0 v1 v2 : Value) (x : Int32) (st : List Value) (S : aS) (h : aH) : ev d 205 55 [v0, v1, v2, .int x] st S h = ev d 205 56 [v0, v1, v2, .int x] (.int x :: st) S h := u_LdI rfl rfl d st S h
theorem u205_56 (d : Nat) (v1 v2 v3 : Value) (x : Nat) (st : List Value) (S : aS) (h : aH) : ev d 205 56 [.ref x, v1, v2, v3] st S h = ev d 205 57 [.ref x, v1, v2, v3] (.ref x :: st) S h := u_LdA rfl rfl d st S h
theorem u205_57 (d : Nat) (v0 v2 v3 : Value) (x : Int32) (st : List Value) (S : aS) (h : aH) : ev d 205 57 [v0, .int x, v2, v3] st S h = ev d 205 58 [v0, .int x, v2, v3] (.int x :: st) S h := u_LdI rfl rfl d st S h
theorem u205_58 (d : Nat) (v0 v1 v3 : Value) (x : Int32) (st : List Value) (S : aS) (h : aH) : ev d 205 58 [v0, v1, .int x, v3] st S h = ev d 205 59 [v0, v1, .int x, v3] (.int x :: st) S h := u_LdI rfl rfl d st S h
theorem u205_59 (d : Nat) (ls : List Value) (a0 a1 : Value) (c : Nat) (st : List Value) (S : aS) (h : aH) : ev (d + 1) 205 59 ls (a0 :: a1 :: .ref c :: st) S h = gd (aK S c = 11) (gd (cs st ≤ 8) ((call d 204 [.ref c, a1, a0] S h).bind fun r => ev (d + 1) 205 62 ls (r.1.toList ++ st) r.2.1 r.2.2)) := u_CalV1 (as := [a0, a1]) rfl rfl d ls c st S h
theorem u205_62 (d : Nat) (ls : List Value) (y x : Int32) (st : List Value) (S : aS) (h : aH) : ev d 205 62 ls (.int y :: .int x :: st) S h = ev d 205 63 ls (.int (x + y) :: st) S h := u_II (f := fun x y => x + y) rfl d ls y x st S h
theorem u205_63 (d : Nat) (ls : List Value) (x : Int32) (st : List Value) (S : aS) (h : aH) : ev d 205 63 ls (.int x :: st) S h = ev d 205 64 (lset1 ls 3 (.int x)) st S h := u_StI rfl d ls x st S h
theorem u205_64 (d : Nat) (v0 v1 v3 : Value) (x : Int32) (st : List Value) (S : aS) (h : aH) : ev d 205 64 [v0, v1, .int x, v3] st S h = ev d 205 65 [v0, v1, .int x, v3] (.int x :: st) S h := u_LdI rfl rfl d st S h
theorem u205_65 (d : Nat) (ls st : List Value) (S : aS) (h : aH) : ev d 205 65 ls st S h = ev d 205 66 ls (.int 1 :: st) S h := u_Push rfl d ls st S h
theorem u205_66 (d : Nat) (ls : List Value) (y x : Int32) (st : List Value) (S : aS) (h : aH) : ev d 205 66 ls (.int y :: .int x :: st) S h = br (¬ x = y) (ev d 205 73 ls st S h) (ev d 205 69 ls st S h) := u_Ic (P := fun x y => ¬ x = y) rfl d ls y x st S h
theorem u205_69 (d : Nat) (v0 v1 v2 : Value) (x : Int32) (st : List Value) (S : aS) (h : aH) : ev d 205 69 [v0, v1, v2, .int x] st S h = ev d 205 70 [v0, v1, v2, .int x] (.int x :: st) S h := u_LdI rfl rfl d st S h
theorem u205_70 (d : Nat) (ls st : List Value) (S : aS) (h : aH) : ev d 205 70 ls st S h = ev d 205 101 ls st S h := u_Go rfl d ls st S h
theorem u205_73 (d : Nat) (v0 v1 v3 : Value) (x : Int32) (st : List Value) (S : aS) (h : aH) : ev d 205 73 [v0, v1, .int x, v3] st S h = ev d 205 74 [v0, v1, .int x, v3] (.int x :: st) S h := u_LdI rfl rfl d st S h
theorem u205_74 (d : Nat) (ls st : List Value) (S : aS) (h : aH) : ev d 205 74 ls st S h = ev d 205 75 ls (.int 4 :: st) S h := u_Push rfl d ls st S h
theorem u205_75 (d : Nat) (ls : List Value) (y x : Int32) (st : List Value) (S : aS) (h : aH) : ev d 205 75 ls (.int y :: .int x :: st) S h = br (¬ x = y) (ev d 205 86 ls st S h) (ev d 205 78 ls st S h) := u_Ic (P := fun x y => ¬ x = y) rfl d ls y x st S h
theorem u205_78 (d : Nat) (v0 v1 v2 : Value) (x : Int32) (st : List Value) (S : aS) (h : aH) : ev d 205 78 [v0, v1, v2, .int x] st S h = ev d 205 79 [v0, v1, v2, .int x] (.int x :: st) S h := u_LdI rfl rfl d st S h
theorem u205_79 (d : Nat) (ls st : List Value) (S : aS) (h : aH) : ev d 205 79 ls st S h = ev d 205 82 ls (.int 1000 :: st) S h := u_Push rfl d ls st S h
theorem u205_82 (d : Nat) (ls : List Value) (y x : Int32) (st : List Value) (S : aS) (h : aH) : ev d 205 82 ls (.int y :: .int x :: st) S h = ev d 205 83 ls (.int (x + y) :: st) S h := u_II (f := fun x y => x + y) rfl d ls y x st S h
theorem u205_83 (d : Nat) (ls st : List Value) (S : aS) (h : aH) : ev d 205 83 ls st S h = ev d 205 101 ls st S h := u_Go rfl d ls st S h
theorem u205_86 (d : Nat) (v0 v1 v3 : Value) (x : Int32) (st : List Value) (S : aS) (h : aH) : ev d 205 86 [v0, v1, .int x, v3] st S h = ev d 205 87 [v0, v1, .int x, v3] (.int x :: st) S h := u_LdI rfl rfl d st S h
theorem u205_87 (d : Nat) (ls st : List Value) (S : aS) (h : aH) : ev d 205 87 ls st S h = ev d 205 88 ls (.int 3 :: st) S h := u_Push rfl d ls st S h
theorem u205_88 (d : Nat) (ls : List Value) (y x : Int32) (st : List Value) (S : aS) (h : aH) : ev d 205 88 ls (.int y :: .int x :: st) S h = br (¬ x = y) (ev d 205 97 ls st S h) (ev d 205 91 ls st S h) := u_Ic (P := fun x y => ¬ x = y) rfl d ls y x st S h
theorem u205_91 (d : Nat) (ls st : List Value) (S : aS) (h : aH) : ev d 205 91 ls st S h = ev d 205 92 ls (.int 2 :: st) S h := u_Push rfl d ls st S h
theorem u205_92 (d : Nat) (v0 v1 v2 : Value) (x : Int32) (st : List Value) (S : aS) (h : aH) : ev d 205 92 [v0, v1, v2, .int x] st S h = ev d 205 93 [v0, v1, v2, .int x] (.int x :: st) S h := u_LdI rfl rfl d st S h
theorem u205_93 (d : Nat) (ls : List Value) (y x : Int32) (st : List Value) (S : aS) (h : aH) : ev d 205 93 ls (.int y :: .int x :: st) S h = ev d 205 94 ls (.int (x * y) :: st) S h := u_II (f := fun x y => x * y) rfl d ls y x st S h
theorem u205_94 (d : Nat) (ls st : List Value) (S : aS) (h : aH) : ev d 205 94 ls st S h = ev d 205 101 ls st S h := u_Go rfl d ls st S h
theorem u205_97 (d : Nat) (ls st : List Value) (S : aS) (h : aH) : ev d 205 97 ls st S h = ev d 205 99 ls (.int (-2) :: st) S h := u_Push rfl d ls st S h
theorem u205_99 (d : Nat) (v0 v1 v2 : Value) (x : Int32) (st : List Value) (S : aS) (h : aH) : ev d 205 99 [v0, v1, v2, .int x] st S h = ev d 205 100 [v0, v1, v2, .int x] (.int x :: st) S h := u_LdI rfl rfl d st S h
theorem u205_100 (d : Nat) (ls : List Value) (y x : Int32) (st : List Value) (S : aS) (h : aH) : ev d 205 100 ls (.int y :: .int x :: st) S h = ev d 205 101 ls (.int (x * y) :: st) S h := u_II (f := fun x y => x * y) rfl d ls y x st S h
theorem u205_101 (d : Nat) (ls : List Value) (x : Int32) (S : aS) (h : aH) : ev d 205 101 ls [.int x] S h = some (some (.int x), S, h) := u_RetI rfl d ls x S h
theorem c205 (d : Nat) (c : Nat) (x0 : Int32) (x1 : Int32) (S : aS) (h : aH) : call d 205 [.ref c, .int x0, .int x1] S h = ev d 205 0 [.ref c, .int x0, .int x1, .null] [] S h := gd_pos (show 3 ≤ 4 by decide) _
theorem u206_0 (d : Nat) (v1 v2 : Value) (x : Nat) (st : List Value) (S : aS) (h : aH) : ev d 206 0 [.ref x, v1, v2] st S h = ev d 206 1 [.ref x, v1, v2] (.ref x :: st) S h := u_LdA rfl rfl d st S h
theorem u206_1 (d : Nat) (ls st : List Value) (S : aS) (h : aH) : ev d 206 1 ls st S h = ev d 206 2 ls (.int 0 :: st) S h := u_Push rfl d ls st S h
theorem u206_2 (d : Nat) (ls : List Value) (x : Int32) (c : Nat) (st : List Value) (S : aS) (h : aH) : ev d 206 2 ls (.int x :: .ref c :: st) S h = gd (aK S c = 11) (ev d 206 5 ls st S (sI h c 0 x)) := u_PutI (P := fun k => k = 11) rfl d ls x c st S h
theorem u206_5 (d : Nat) (v1 v2 : Value) (x : Nat) (st : List Value) (S : aS) (h : aH) : ev d 206 5 [.ref x, v1, v2] st S h = ev d 206 6 [.ref x, v1, v2] (.ref x :: st) S h := u_LdA rfl rfl d st S h
theorem u206_6 (d : Nat) (v0 v2 : Value) (x : Int32) (st : List Value) (S : aS) (h : aH) : ev d 206 6 [v0, .int x, v2] st S h = ev d 206 7 [v0, .int x, v2] (.int x :: st) S h := u_LdI rfl rfl d st S h
theorem u206_7 (d : Nat) (ls : List Value) (a0 : Value) (c : Nat) (st : List Value) (S : aS) (h : aH) : ev (d + 1) 206 7 ls (a0 :: .ref c :: st) S h = gd (aK S c = 11) (gd (cs st ≤ 8) ((call d 159 [.ref c, a0] S h).bind fun r => ev (d + 1) 206 10 ls (r.1.toList ++ st) r.2.1 r.2.2)) := u_CalV1 (as := [a0]) rfl rfl d ls c st S h
theorem u206_10 (d : Nat) (ls : List Value) (x : Int32) (st : List Value) (S : aS) (h : aH) : ev d 206 10 ls (.int x :: st) S h = br (x = 0) (ev d 206 23 ls st S h) (ev d 206 13 ls st S h) := u_If (P := fun x => x = 0) rfl d ls x st S h
theorem u206_13 (d : Nat) (v0 v1 : Value) (x : Int32) (st : List Value) (S : aS) (h : aH) : ev d 206 13 [v0, v1, .int x] st S h = ev d 206 14 [v0, v1, .int x] (.int x :: st) S h := u_LdI rfl rfl d st S h
theorem u206_14 (d : Nat) (ls : List Value) (x : Int32) (st : List Value) (S : aS) (h : aH) : ev d 206 14 ls (.int x :: st) S h = ev d 206 15 ls (.long (x.toInt64) :: st) S h := u_IL (f := fun x => x.toInt64) rfl d ls x st S h
theorem u206_15 (d : Nat) (ls st : List Value) (S : aS) (h : aH) : ev d 206 15 ls st S h = ev d 206 16 ls (.long 0 :: st) S h := u_Push rfl d ls st S h
theorem u206_16 (d : Nat) (ls st : List Value) (S : aS) (h : aH) : ev d 206 16 ls st S h = ev d 206 17 ls (.long 1 :: st) S h := u_Push rfl d ls st S h
theorem u206_17 (d : Nat) (ls : List Value) (a0 a1 a2 : Value) (st : List Value) (S : aS) (h : aH) : ev (d + 1) 206 17 ls (a0 :: a1 :: a2 :: st) S h = gd (cs st ≤ 8) ((call d 131 [a2, a1, a0] S h).bind fun r => ev (d + 1) 206 20 ls (r.1.toList ++ st) r.2.1 r.2.2) := u_Call (as := [a0, a1, a2]) rfl rfl d ls st S h
theorem u206_20 (d : Nat) (ls : List Value) (x : Int32) (st : List Value) (S : aS) (h : aH) : ev d 206 20 ls (.int x :: st) S h = br (¬ x = 0) (ev d 206 26 ls st S h) (ev d 206 23 ls st S h) := u_If (P := fun x => ¬ x = 0) rfl d ls x st S h
theorem u206_23 (d : Nat) (ls st : List Value) (S : aS) (h : aH) : ev d 206 23 ls st S h = ev d 206 25 ls (.int (-1000001) :: st) S h := u_Push rfl d ls st S h
theorem u206_25 (d : Nat) (ls : List Value) (x : Int32) (S : aS) (h : aH) : ev d 206 25 ls [.int x] S h = some (some (.int x), S, h) := u_RetI rfl d ls x S h
theorem u206_26 (d : Nat) (v1 v2 : Value) (x : Nat) (st : List Value) (S : aS) (h : aH) : ev d 206 26 [.ref x, v1, v2] st S h = ev d 206 27 [.ref x, v1, v2] (.ref x :: st) S h := u_LdA rfl rfl d st S h
theorem u206_27 (d : Nat) (ls st : List Value) (S : aS) (h : aH) : ev d 206 27 ls st S h = ev d 206 28 ls (.int 0 :: st) S h := u_Push rfl d ls st S h
theorem u206_28 (d : Nat) (ls : List Value) (x : Int32) (c : Nat) (st : List Value) (S : aS) (h : aH) : ev d 206 28 ls (.int x :: .ref c :: st) S h = gd (aK S c = 11) (ev d 206 31 ls st S (sI h c 36 x)) := u_PutI (P := fun k => k = 11) rfl d ls x c st S h
theorem u206_31 (d : Nat) (v0 v1 : Value) (x : Int32) (st : List Value) (S : aS) (h : aH) : ev d 206 31 [v0, v1, .int x] st S h = ev d 206 32 [v0, v1, .int x] (.int x :: st) S h := u_LdI rfl rfl d st S h
theorem u206_32 (d : Nat) (ls : List Value) (x : Int32) (st : List Value) (S : aS) (h : aH) : ev d 206 32 ls (.int x :: st) S h = br (¬ x = 0) (ev d 206 48 ls st S h) (ev d 206 35 ls st S h) := u_If (P := fun x => ¬ x = 0) rfl d ls x st S h
theorem u206_35 (d : Nat) (v1 v2 : Value) (x : Nat) (st : List Value) (S : aS) (h : aH) : ev d 206 35 [.ref x, v1, v2] st S h = ev d 206 36 [.ref x, v1, v2] (.ref x :: st) S h := u_LdA rfl rfl d st S h
theorem u206_36 (d : Nat) (v0 v2 : Value) (x : Int32) (st : List Value) (S : aS) (h : aH) : ev d 206 36 [v0, .int x, v2] st S h = ev d 206 37 [v0, .int x, v2] (.int x :: st) S h := u_LdI rfl rfl d st S h
theorem u206_37 (d : Nat) (v1 v2 : Value) (x : Nat) (st : List Value) (S : aS) (h : aH) : ev d 206 37 [.ref x, v1, v2] st S h = ev d 206 38 [.ref x, v1, v2] (.ref x :: st) S h := u_LdA rfl rfl d st S h
theorem u206_38 (d : Nat) (v0 v2 : Value) (x : Int32) (st : List Value) (S : aS) (h : aH) : ev d 206 38 [v0, .int x, v2] st S h = ev d 206 39 [v0, .int x, v2] (.int x :: st) S h := u_LdI rfl rfl d st S h
theorem u206_39 (d : Nat) (ls : List Value) (a0 : Value) (c : Nat) (st : List Value) (S : aS) (h : aH) : ev (d + 1) 206 39 ls (a0 :: .ref c :: st) S h = gd (aK S c = 11) (gd (cs st ≤ 8) ((call d 198 [.ref c, a0] S h).bind fun r => ev (d + 1) 206 42 ls (r.1.toList ++ st) r.2.1 r.2.2)) := u_CalV1 (as := [a0]) rfl rfl d ls c st S h
theorem u206_42 (d : Nat) (ls : List Value) (a0 a1 : Value) (c : Nat) (st : List Value) (S : aS) (h : aH) : ev (d + 1) 206 42 ls (a0 :: a1 :: .ref c :: st) S h = gd (aK S c = 11) (gd (cs st ≤ 8) ((call d 205 [.ref c, a1, a0] S h).bind fun r => ev (d + 1) 206 45 ls (r.1.toList ++ st) r.2.1 r.2.2)) := u_CalV1 (as := [a0, a1]) rfl rfl d ls c st S h
theorem u206_45 (d : Nat) (ls st : List Value) (S : aS) (h : aH) : ev d 206 45 ls st S h = ev d 206 58 ls st S h := u_Go rfl d ls st S h
theorem u206_48 (d : Nat) (v1 v2 : Value) (x : Nat) (st : List Value) (S : aS) (h : aH) : ev d 206 48 [.ref x, v1, v2] st S h = ev d 206 49 [.ref x, v1, v2] (.ref x :: st) S h := u_LdA rfl rfl d st S h
theorem u206_49 (d : Nat) (v0 v2 : Value) (x : Int32) (st : List Value) (S : aS) (h : aH) : ev d 206 49 [v0, .int x, v2] st S h = ev d 206 50 [v0, .int x, v2] (.int x :: st) S h := u_LdI rfl rfl d st S h
theorem u206_50 (d : Nat) (v1 v2 : Value) (x : Nat) (st : List Value) (S : aS) (h : aH) : ev d 206 50 [.ref x, v1, v2] st S h = ev d 206 51 [.ref x, v1, v2] (.ref x :: st) S h := u_LdA rfl rfl d st S h
theorem u206_51 (d : Nat) (v0 v2 : Value) (x : Int32) (st : List Value) (S : aS) (h : aH) : ev d 206 51 [v0, .int x, v2] st S h = ev d 206 52 [v0, .int x, v2] (.int x :: st) S h := u_LdI rfl rfl d st S h
theorem u206_52 (d : Nat) (ls : List Value) (a0 : Value) (c : Nat) (st : List Value) (S : aS) (h : aH) : ev (d + 1) 206 52 ls (a0 :: .ref c :: st) S h = gd (aK S c = 11) (gd (cs st ≤ 8) ((call d 198 [.ref c, a0] S h).bind fun r => ev (d + 1) 206 55 ls (r.1.toList ++ st) r.2.1 r.2.2)) := u_CalV1 (as := [a0]) rfl rfl d ls c st S h
theorem u206_55 (d : Nat) (ls : List Value) (a0 a1 : Value) (c : Nat) (st : List Value) (S : aS) (h : aH) : ev (d + 1) 206 55 ls (a0 :: a1 :: .ref c :: st) S h = gd (aK S c = 11) (gd (cs st ≤ 8) ((call d 204 [.ref c, a1, a0] S h).bind fun r => ev (d + 1) 206 58 ls (r.1.toList ++ st) r.2.1 r.2.2)) := u_CalV1 (as := [a0, a1]) rfl rfl d ls c st S h
theorem u206_58 (d : Nat) (ls : List Value) (x : Int32) (S : aS) (h : aH) : ev d 206 58 ls [.int x] S h = some (some (.int x), S, h) := u_RetI rfl d ls x S h
theorem c206 (d : Nat) (c : Nat) (x0 : Int32) (x1 : Int32) (S : aS) (h : aH) : call d 206 [.ref c, .int x0, .int x1] S h = ev d 206 0 [.ref c, .int x0, .int x1] [] S h := gd_pos (show 3 ≤ 3 by decide) _
theorem u207_0 (d : Nat) (v1 : Value) (x : Nat) (st : List Value) (S : aS) (h : aH) : ev d 207 0 [.ref x, v1] st S h = ev d 207 1 [.ref x, v1] (.ref x :: st) S h := u_LdA rfl rfl d st S h
theorem u207_1 (d : Nat) (ls st : List Value) (S : aS) (h : aH) : ev d 207 1 ls st S h = ev d 207 2 ls (.int 0 :: st) S h := u_Push rfl d ls st S h
theorem u207_2 (d : Nat) (ls : List Value) (x : Int32) (c : Nat) (st : List Value) (S : aS) (h : aH) : ev d 207 2 ls (.int x :: .ref c :: st) S h = gd (aK S c = 11) (ev d 207 5 ls st S (sI h c 0 x)) := u_PutI (P := fun k => k = 11) rfl d ls x c st S h
theorem u207_5 (d : Nat) (v0 : Value) (x : Int32) (st : List Value) (S : aS) (h : aH) : ev d 207 5 [v0, .int x] st S h = ev d 207 6 [v0, .int x] (.int x :: st) S h := u_LdI rfl rfl d st S h
theorem u207_6 (d : Nat) (ls : List Value) (x : Int32) (st : List Value) (S : aS) (h : aH) : ev d 207 6 ls (.int x :: st) S h = ev d 207 7 ls (.long (x.toInt64) :: st) S h := u_IL (f := fun x => x.toInt64) rfl d ls x st S h
theorem u207_7 (d : Nat) (ls st : List Value) (S : aS) (h : aH) : ev d 207 7 ls st S h = ev d 207 8 ls (.long 0 :: st) S h := u_Push rfl d ls st S h
theorem u207_8 (d : Nat) (v1 : Value) (x : Nat) (st : List Value) (S : aS) (h : aH) : ev d 207 8 [.ref x, v1] st S h = ev d 207 9 [.ref x, v1] (.ref x :: st) S h := u_LdA rfl rfl d st S h
theorem u207_9 (d : Nat) (ls : List Value) (c : Nat) (st : List Value) (S : aS) (h : aH) : ev d 207 9 ls (.ref c :: st) S h = gd (aK S c = 11) (ev d 207 12 ls (.int (h.1 c 36) :: st) S h) := u_GetI (P := fun k => k = 11) rfl d ls c st S h
theorem u207_12 (d : Nat) (ls st : List Value) (S : aS) (h : aH) : ev d 207 12 ls st S h = ev d 207 13 ls (.int 1 :: st) S h := u_Push rfl d ls st S h
theorem u207_13 (d : Nat) (ls : List Value) (y x : Int32) (st : List Value) (S : aS) (h : aH) : ev d 207 13 ls (.int y :: .int x :: st) S h = ev d 207 14 ls (.int (x - y) :: st) S h := u_II (f := fun x y => x - y) rfl d ls y x st S h
theorem u207_14 (d : Nat) (ls : List Value) (x : Int32) (st : List Value) (S : aS) (h : aH) : ev d 207 14 ls (.int x :: st) S h = ev d 207 15 ls (.long (x.toInt64) :: st) S h := u_IL (f := fun x => x.toInt64) rfl d ls x st S h
theorem u207_15 (d : Nat) (ls : List Value) (a0 a1 a2 : Value) (st : List Value) (S : aS) (h : aH) : ev (d + 1) 207 15 ls (a0 :: a1 :: a2 :: st) S h = gd (cs st ≤ 8) ((call d 131 [a2, a1, a0] S h).bind fun r => ev (d + 1) 207 18 ls (r.1.toList ++ st) r.2.1 r.2.2) := u_Call (as := [a0, a1, a2]) rfl rfl d ls st S h
theorem u207_18 (d : Nat) (ls : List Value) (x : Int32) (st : List Value) (S : aS) (h : aH) : ev d 207 18 ls (.int x :: st) S h = br (x = 0) (ev d 207 30 ls st S h) (ev d 207 21 ls st S h) := u_If (P := fun x => x = 0) rfl d ls x st S h
theorem u207_21 (d : Nat) (v1 : Value) (x : Nat) (st : List Value) (S : aS) (h : aH) : ev d 207 21 [.ref x, v1] st S h = ev d 207 22 [.ref x, v1] (.ref x :: st) S h := u_LdA rfl rfl d st S h
theorem u207_22 (d : Nat) (ls : List Value) (c : Nat) (st : List Value) (S : aS) (h : aH) : ev d 207 22 ls (.ref c :: st) S h = gd (aK S c = 11) (ev d 207 25 ls (va_rf (aF S c 35) :: st) S h) := u_GetF (P := fun k => k = 11) rfl d ls c st S h
theorem u207_25 (d : Nat) (v0 : Value) (x : Int32) (st : List Value) (S : aS) (h : aH) : ev d 207 25 [v0, .int x] st S h = ev d 207 26 [v0, .int x] (.int x :: st) S h := u_LdI rfl rfl d st S h
theorem u207_26 (d : Nat) (ls : List Value) (i : Int32) (c : Nat) (st : List Value) (S : aS) (h : aH) : ev d 207 26 ls (.int i :: .ref c :: st) S h = gd (aK S c = 100 ∨ aK S c = 200) (gd (inB i (aL S c)) (ev d 207 27 ls (.int (h.1 c i.toNatClampNeg) :: st) S h)) := u_ALdI rfl d ls i c st S h
theorem u207_27 (d : Nat) (ls st : List Value) (S : aS) (h : aH) : ev d 207 27 ls st S h = ev d 207 32 ls st S h := u_Go rfl d ls st S h
theorem u207_30 (d : Nat) (ls st : List Value) (S : aS) (h : aH) : ev d 207 30 ls st S h = ev d 207 32 ls (.int (-1000000) :: st) S h := u_Push rfl d ls st S h
theorem u207_32 (d : Nat) (ls : List Value) (x : Int32) (S : aS) (h : aH) : ev d 207 32 ls [.int x] S h = some (some (.int x), S, h) := u_RetI rfl d ls x S h
theorem c207 (d : Nat) (c : Nat) (x0 : Int32) (S : aS) (h : aH) : call d 207 [.ref c, .int x0] S h = ev d 207 0 [.ref c, .int x0] [] S h := gd_pos (show 2 ≤ 2 by decide) _
theorem u208_0 (d : Nat) (v1 v2 v3 : Value) (x : Nat) (st : List Value) (S : aS) (h : aH) : ev d 208 0 [.ref x, v1, v2, v3] st S h = ev d 208 1 [.ref x, v1, v2, v3] (.ref x :: st) S h := u_LdA rfl rfl d st S h
theorem u208_1 (d : Nat) (ls st : List Value) (S : aS) (h : aH) : ev d 208 1 ls st S h = ev d 208 2 ls (.int 0 :: st) S h := u_Push rfl d ls st S h
theorem u208_2 (d : Nat) (ls : List Value) (x : Int32) (c : Nat) (st : List Value) (S : aS) (h : aH) : ev d 208 2 ls (.int x :: .ref c :: st) S h = gd (aK S c = 11) (ev d 208 5 ls st S (sI h c 0 x)) := u_PutI (P := fun k => k = 11) rfl d ls x c st S h
theorem u208_5 (d : Nat) (ls st : List Value) (S : aS) (h : aH) : ev d 208 5 ls st S h = ev d 208 6 ls (.int 0 :: st) S h := u_Push rfl d ls st S h
theorem u208_6 (d : Nat) (ls : List Value) (x : Int32) (st : List Value) (S : aS) (h : aH) : ev d 208 6 ls (.int x :: st) S h = ev d 208 7 (lset1 ls 2 (.int x)) st S h := u_StI rfl d ls x st S h
theorem u208_7 (d : Nat) (v0 v2 v3 : Value) (x : Int32) (st : List Value) (S : aS) (h : aH) : ev d 208 7 [v0, .int x, v2, v3] st S h = ev d 208 8 [v0, .int x, v2, v3] (.int x :: st) S h := u_LdI rfl rfl d st S h
theorem u208_8 (d : Nat) (ls : List Value) (x : Int32) (st : List Value) (S : aS) (h : aH) : ev d 208 8 ls (.int x :: st) S h = br (x.toInt < 0 ∨ 6 < x.toInt) (ev d 208 163 ls st S h) (match ([52, 85, 85, 94, 85, 122, 158] : List Nat)[(x.toInt - 0).toNat]? with
  | some q => ev d 208 q ls st S h
  | none => none) := u_Sw rfl d ls x st S h
theorem u208_52 (d : Nat) (ls st : List Value) (S : aS) (h : aH) : ev d 208 52 ls st S h = ev d 208 53 ls (.int 0 :: st) S h := u_Push rfl d ls st S h
theorem u208_53 (d : Nat) (ls : List Value) (x : Int32) (st : List Value) (S : aS) (h : aH) : ev d 208 53 ls (.int x :: st) S h = ev d 208 54 (lset1 ls 3 (.int x)) st S h := u_StI rfl d ls x st S h
theorem u208_54 (d : Nat) (v0 v1 v2 : Value) (x : Int32) (st : List Value) (S : aS) (h : aH) : ev d 208 54 [v0, v1, v2, .int x] st S h = ev d 208 55 [v0, v1, v2, .int x] (.int x :: st) S h := u_LdI rfl rfl d st S h
theorem u208_55 (d : Nat) (ls st : List Value) (S : aS) (h : aH) : ev d 208 55 ls st S h = ev d 208 57 ls (.int 8 :: st) S h := u_Push rfl d ls st S h
theorem u208_57 (d : Nat) (ls : List Value) (y x : Int32) (st : List Value) (S : aS) (h : aH) : ev d 208 57 ls (.int y :: .int x :: st) S h = br (y ≤ x) (ev d 208 83 ls st S h) (ev d 208 60 ls st S h) := u_Ic (P := fun x y => y ≤ x) rfl d ls y x st S h
theorem u208_60 (d : Nat) (v0 v1 v3 : Value) (x : Int32) (st : List Value) (S : aS) (h : aH) : ev d 208 60 [v0, v1, .int x, v3] st S h = ev d 208 61 [v0, v1, .int x, v3] (.int x :: st) S h := u_LdI rfl rfl d st S h
theorem u208_61 (d : Nat) (v1 v2 v3 : Value) (x : Nat) (st : List Value) (S : aS) (h : aH) : ev d 208 61 [.ref x, v1, v2, v3] st S h = ev d 208 62 [.ref x, v1, v2, v3] (.ref x :: st) S h := u_LdA rfl rfl d st S h
theorem u208_62 (d : Nat) (ls : List Value) (c : Nat) (st : List Value) (S : aS) (h : aH) : ev d 208 62 ls (.ref c :: st) S h = gd (aK S c = 11) (ev d 208 65 ls (va_rf (aF S c 2) :: st) S h) := u_GetF (P := fun k => k = 11) rfl d ls c st S h
theorem u208_65 (d : Nat) (v0 v1 v2 : Value) (x : Int32) (st : List Value) (S : aS) (h : aH) : ev d 208 65 [v0, v1, v2, .int x] st S h = ev d 208 66 [v0, v1, v2, .int x] (.int x :: st) S h := u_LdI rfl rfl d st S h
theorem u208_66 (d : Nat) (ls : List Value) (i : Int32) (c : Nat) (st : List Value) (S : aS) (h : aH) : ev d 208 66 ls (.int i :: .ref c :: st) S h = gd (aK S c = 100 ∨ aK S c = 200) (gd (inB i (aL S c)) (ev d 208 67 ls (.int (h.1 c i.toNatClampNeg) :: st) S h)) := u_ALdI rfl d ls i c st S h
theorem u208_67 (d : Nat) (ls : List Value) (x : Int32) (st : List Value) (S : aS) (h : aH) : ev d 208 67 ls (.int x :: st) S h = br (x < 0) (ev d 208 74 ls st S h) (ev d 208 70 ls st S h) := u_If (P := fun x => x < 0) rfl d ls x st S h
theorem u208_70 (d : Nat) (ls st : List Value) (S : aS) (h : aH) : ev d 208 70 ls st S h = ev d 208 71 ls (.int 1 :: st) S h := u_Push rfl d ls st S h
theorem u208_71 (d : Nat) (ls st : List Value) (S : aS) (h : aH) : ev d 208 71 ls st S h = ev d 208 75 ls st S h := u_Go rfl d ls st S h
theorem u208_74 (d : Nat) (ls st : List Value) (S : aS) (h : aH) : ev d 208 74 ls st S h = ev d 208 75 ls (.int 0 :: st) S h := u_Push rfl d ls st S h
theorem u208_75 (d : Nat) (ls : List Value) (y x : Int32) (st : List Value) (S : aS) (h : aH) : ev d 208 75 ls (.int y :: .int x :: st) S h = ev d 208 76 ls (.int (x + y) :: st) S h := u_II (f := fun x y => x + y) rfl d ls y x st S h
theorem u208_76 (d : Nat) (ls : List Value) (x : Int32) (st : List Value) (S : aS) (h : aH) : ev d 208 76 ls (.int x :: st) S h = ev d 208 77 (lset1 ls 2 (.int x)) st S h := u_StI rfl d ls x st S h
theorem u208_77 (d : Nat) (v0 v1 v2 : Value) (x : Int32) (st : List Value) (S : aS) (h : aH) : ev d 208 77 [v0, v1, v2, .int x] st S h = ev d 208 80 (lset1 [v0, v1, v2, .int x] 3 (.int (x + 1))) st S h := u_Inc rfl rfl d st S h
theorem u208_80 (d : Nat) (ls st : List Value) (S : aS) (h : aH) : ev d 208 80 ls st S h = ev d 208 54 ls st S h := u_Go rfl d ls st S h
theorem u208_83 (d : Nat) (v0 v1 v3 : Value) (x : Int32) (st : List Value) (S : aS) (h : aH) : ev d 208 83 [v0, v1, .int x, v3] st S h = ev d 208 84 [v0, v1, .int x, v3] (.int x :: st) S h := u_LdI rfl rfl d st S h
theorem u208_84 (d : Nat) (ls : List Value) (x : Int32) (S : aS) (h : aH) : ev d 208 84 ls [.int x] S h = some (some (.int x), S, h) := u_RetI rfl d ls x S h
theorem u208_85 (d : Nat) (v1 v2 v3 : Value) (x : Nat) (st : List Value) (S : aS) (h : aH) : ev d 208 85 [.ref x, v1, v2, v3] st S h = ev d 208 86 [.ref x, v1, v2, v3] (.ref x :: st) S h := u_LdA rfl rfl d st S h
theorem u208_86 (d : Nat) (ls : List Value) (c : Nat) (st : List Value) (S : aS) (h : aH) : ev d 208 86 ls (.ref c :: st) S h = gd (aK S c = 11) (ev d 208 89 ls (va_rf (aF S c 5) :: st) S h) := u_GetF (P := fun k => k = 11) rfl d ls c st S h
theorem u208_89 (d : Nat) (v0 v2 v3 : Value) (x : Int32) (st : List Value) (S : aS) (h : aH) : ev d 208 89 [v0, .int x, v2, v3] st S h = ev d 208 90 [v0, .int x, v2, v3] (.int x :: st) S h := u_LdI rfl rfl d st S h
theorem u208_90 (d : Nat) (ls st : List Value) (S : aS) (h : aH) : ev d 208 90 ls st S h = ev d 208 91 ls (.int 1 :: st) S h := u_Push rfl d ls st S h
theorem u208_91 (d : Nat) (ls : List Value) (y x : Int32) (st : List Value) (S : aS) (h : aH) : ev d 208 91 ls (.int y :: .int x :: st) S h = ev d 208 92 ls (.int (x - y) :: st) S h := u_II (f := fun x y => x - y) rfl d ls y x st S h
theorem u208_92 (d : Nat) (ls : List Value) (i : Int32) (c : Nat) (st : List Value) (S : aS) (h : aH) : ev d 208 92 ls (.int i :: .ref c :: st) S h = gd (aK S c = 100 ∨ aK S c = 200) (gd (inB i (aL S c)) (ev d 208 93 ls (.int (h.1 c i.toNatClampNeg) :: st) S h)) := u_ALdI rfl d ls i c st S h
theorem u208_93 (d : Nat) (ls : List Value) (x : Int32) (S : aS) (h : aH) : ev d 208 93 ls [.int x] S h = some (some (.int x), S, h) := u_RetI rfl d ls x S h
theorem u208_94 (d : Nat) (ls st : List Value) (S : aS) (h : aH) : ev d 208 94 ls st S h = ev d 208 95 ls (.int 0 :: st) S h := u_Push rfl d ls st S h
theorem u208_95 (d : Nat) (ls : List Value) (x : Int32) (st : List Value) (S : aS) (h : aH) : ev d 208 95 ls (.int x :: st) S h = ev d 208 96 (lset1 ls 3 (.int x)) st S h := u_StI rfl d ls x st S h
theorem u208_96 (d : Nat) (v0 v1 v2 : Value) (x : Int32) (st : List Value) (S : aS) (h : aH) : ev d 208 96 [v0, v1, v2, .int x] st S h = ev d 208 97 [v0, v1, v2, .int x] (.int x :: st) S h := u_LdI rfl rfl d st S h
theorem u208_97 (d : Nat) (ls st : List Value) (S : aS) (h : aH) : ev d 208 97 ls st S h = ev d 208 99 ls (.int 56 :: st) S h := u_Push rfl d ls st S h
theorem u208_99 (d : Nat) (ls : List Value) (y x : Int32) (st : List Value) (S : aS) (h : aH) : ev d 208 99 ls (.int y :: .int x :: st) S h = br (y ≤ x) (ev d 208 120 ls st S h) (ev d 208 102 ls st S h) := u_Ic (P := fun x y => y ≤ x) rfl d ls y x st S h
theorem u208_102 (d : Nat) (v0 v1 v3 : Value) (x : Int32) (st : List Value) (S : aS) (h : aH) : ev d 208 102 [v0, v1, .int x, v3] st S h = ev d 208 103 [v0, v1, .int x, v3] (.int x :: st) S h := u_LdI rfl rfl d st S h
theorem u208_103 (d : Nat) (v1 v2 v3 : Value) (x : Nat) (st : List Value) (S : aS) (h : aH) : ev d 208 103 [.ref x, v1, v2, v3] st S h = ev d 208 104 [.ref x, v1, v2, v3] (.ref x :: st) S h := u_LdA rfl rfl d st S h
theorem u208_104 (d : Nat) (ls : List Value) (c : Nat) (st : List Value) (S : aS) (h : aH) : ev d 208 104 ls (.ref c :: st) S h = gd (aK S c = 11) (ev d 208 107 ls (va_rf (aF S c 5) :: st) S h) := u_GetF (P := fun k => k = 11) rfl d ls c st S h
theorem u208_107 (d : Nat) (ls st : List Value) (S : aS) (h : aH) : ev d 208 107 ls st S h = ev d 208 109 ls (.int 46 :: st) S h := u_Push rfl d ls st S h
theorem u208_109 (d : Nat) (v0 v1 v2 : Value) (x : Int32) (st : List Value) (S : aS) (h : aH) : ev d 208 109 [v0, v1, v2, .int x] st S h = ev d 208 110 [v0, v1, v2, .int x] (.int x :: st) S h := u_LdI rfl rfl d st S h
theorem u208_110 (d : Nat) (ls : List Value) (y x : Int32) (st : List Value) (S : aS) (h : aH) : ev d 208 110 ls (.int y :: .int x :: st) S h = ev d 208 111 ls (.int (x + y) :: st) S h := u_II (f := fun x y => x + y) rfl d ls y x st S h
theorem u208_111 (d : Nat) (ls : List Value) (i : Int32) (c : Nat) (st : List Value) (S : aS) (h : aH) : ev d 208 111 ls (.int i :: .ref c :: st) S h = gd (aK S c = 100 ∨ aK S c = 200) (gd (inB i (aL S c)) (ev d 208 112 ls (.int (h.1 c i.toNatClampNeg) :: st) S h)) := u_ALdI rfl d ls i c st S h
theorem u208_112 (d : Nat) (ls : List Value) (y x : Int32) (st : List Value) (S : aS) (h : aH) : ev d 208 112 ls (.int y :: .int x :: st) S h = ev d 208 113 ls (.int (x + y) :: st) S h := u_II (f := fun x y => x + y) rfl d ls y x st S h
theorem u208_113 (d : Nat) (ls : List Value) (x : Int32) (st : List Value) (S : aS) (h : aH) : ev d 208 113 ls (.int x :: st) S h = ev d 208 114 (lset1 ls 2 (.int x)) st S h := u_StI rfl d ls x st S h
theorem u208_114 (d : Nat) (v0 v1 v2 : Value) (x : Int32) (st : List Value) (S : aS) (h : aH) : ev d 208 114 [v0, v1, v2, .int x] st S h = ev d 208 117 (lset1 [v0, v1, v2, .int x] 3 (.int (x + 1))) st S h := u_Inc rfl rfl d st S h
theorem u208_117 (d : Nat) (ls st : List Value) (S : aS) (h : aH) : ev d 208 117 ls st S h = ev d 208 96 ls st S h := u_Go rfl d ls st S h
theorem u208_120 (d : Nat) (v0 v1 v3 : Value) (x : Int32) (st : List Value) (S : aS) (h : aH) : ev d 208 120 [v0, v1, .int x, v3] st S h = ev d 208 121 [v0, v1, .int x, v3] (.int x :: st) S h := u_LdI rfl rfl d st S h
theorem u208_121 (d : Nat) (ls : List Value) (x : Int32) (S : aS) (h : aH) : ev d 208 121 ls [.int x] S h = some (some (.int x), S, h) := u_RetI rfl d ls x S h
theorem u208_122 (d : Nat) (ls st : List Value) (S : aS) (h : aH) : ev d 208 122 ls st S h = ev d 208 123 ls (.int 0 :: st) S h := u_Push rfl d ls st S h
theorem u208_123 (d : Nat) (ls : List Value) (x : Int32) (st : List Value) (S : aS) (h : aH) : ev d 208 123 ls (.int x :: st) S h = ev d 208 124 (lset1 ls 3 (.int x)) st S h := u_StI rfl d ls x st S h
theorem u208_124 (d : Nat) (v0 v1 v2 : Value) (x : Int32) (st : List Value) (S : aS) (h : aH) : ev d 208 124 [v0, v1, v2, .int x] st S h = ev d 208 125 [v0, v1, v2, .int x] (.int x :: st) S h := u_LdI rfl rfl d st S h
theorem u208_125 (d : Nat) (v1 v2 v3 : Value) (x : Nat) (st : List Value) (S : aS) (h : aH) : ev d 208 125 [.ref x, v1, v2, v3] st S h = ev d 208 126 [.ref x, v1, v2, v3] (.ref x :: st) S h := u_LdA rfl rfl d st S h
theorem u208_126 (d : Nat) (ls : List Value) (c : Nat) (st : List Value) (S : aS) (h : aH) : ev d 208 126 ls (.ref c :: st) S h = gd (aK S c = 11) (ev d 208 129 ls (va_rf (aF S c 5) :: st) S h) := u_GetF (P := fun k => k = 11) rfl d ls c st S h
theorem u208_129 (d : Nat) (ls st : List Value) (S : aS) (h : aH) : ev d 208 129 ls st S h = ev d 208 130 ls (.int 3 :: st) S h := u_Push rfl d ls st S h
theorem u208_130 (d : Nat) (ls : List Value) (i : Int32) (c : Nat) (st : List Value) (S : aS) (h : aH) : ev d 208 130 ls (.int i :: .ref c :: st) S h = gd (aK S c = 100 ∨ aK S c = 200) (gd (inB i (aL S c)) (ev d 208 131 ls (.int (h.1 c i.toNatClampNeg) :: st) S h)) := u_ALdI rfl d ls i c st S h
theorem u208_131 (d : Nat) (ls : List Value) (y x : Int32) (st : List Value) (S : aS) (h : aH) : ev d 208 131 ls (.int y :: .int x :: st) S h = br (y ≤ x) (ev d 208 156 ls st S h) (ev d 208 134 ls st S h) := u_Ic (P := fun x y => y ≤ x) rfl d ls y x st S h
theorem u208_134 (d : Nat) (v0 v1 v3 : Value) (x : Int32) (st : List Value) (S : aS) (h : aH) : ev d 208 134 [v0, v1, .int x, v3] st S h = ev d 208 135 [v0, v1, .int x, v3] (.int x :: st) S h := u_LdI rfl rfl d st S h
theorem u208_135 (d : Nat) (v1 v2 v3 : Value) (x : Nat) (st : List Value) (S : aS) (h : aH) : ev d 208 135 [.ref x, v1, v2, v3] st S h = ev d 208 136 [.ref x, v1, v2, v3] (.ref x :: st) S h := u_LdA rfl rfl d st S h
theorem u208_136 (d : Nat) (v0 v1 v2 : Value) (x : Int32) (st : List Value) (S : aS) (h : aH) : ev d 208 136 [v0, v1, v2, .int x] st S h = ev d 208 137 [v0, v1, v2, .int x] (.int x :: st) S h := u_LdI rfl rfl d st S h
theorem u208_137 (d : Nat) (ls : List Value) (a0 : Value) (c : Nat) (st : List Value) (S : aS) (h : aH) : ev (d + 1) 208 137 ls (a0 :: .ref c :: st) S h = gd (aK S c = 11) (gd (cs st ≤ 8) ((call d 175 [.ref c, a0] S h).bind fun r => ev (d + 1) 208 140 ls (r.1.toList ++ st) r.2.1 r.2.2)) := u_CalV1 (as := [a0]) rfl rfl d ls c st S h
theorem u208_140 (d : Nat) (ls : List Value) (x : Int32) (st : List Value) (S : aS) (h : aH) : ev d 208 140 ls (.int x :: st) S h = br (x = 0) (ev d 208 147 ls st S h) (ev d 208 143 ls st S h) := u_If (P := fun x => x = 0) rfl d ls x st S h
theorem u208_143 (d : Nat) (ls st : List Value) (S : aS) (h : aH) : ev d 208 143 ls st S h = ev d 208 144 ls (.int 1 :: st) S h := u_Push rfl d ls st S h
theorem u208_144 (d : Nat) (ls st : List Value) (S : aS) (h : aH) : ev d 208 144 ls st S h = ev d 208 148 ls st S h := u_Go rfl d ls st S h
theorem u208_147 (d : Nat) (ls st : List Value) (S : aS) (h : aH) : ev d 208 147 ls st S h = ev d 208 148 ls (.int 0 :: st) S h := u_Push rfl d ls st S h
theorem u208_148 (d : Nat) (ls : List Value) (y x : Int32) (st : List Value) (S : aS) (h : aH) : ev d 208 148 ls (.int y :: .int x :: st) S h = ev d 208 149 ls (.int (x + y) :: st) S h := u_II (f := fun x y => x + y) rfl d ls y x st S h
theorem u208_149 (d : Nat) (ls : List Value) (x : Int32) (st : List Value) (S : aS) (h : aH) : ev d 208 149 ls (.int x :: st) S h = ev d 208 150 (lset1 ls 2 (.int x)) st S h := u_StI rfl d ls x st S h
theorem u208_150 (d : Nat) (v0 v1 v2 : Value) (x : Int32) (st : List Value) (S : aS) (h : aH) : ev d 208 150 [v0, v1, v2, .int x] st S h = ev d 208 153 (lset1 [v0, v1, v2, .int x] 3 (.int (x + 1))) st S h := u_Inc rfl rfl d st S h
theorem u208_153 (d : Nat) (ls st : List Value) (S : aS) (h : aH) : ev d 208 153 ls st S h = ev d 208 124 ls st S h := u_Go rfl d ls st S h
theorem u208_156 (d : Nat) (v0 v1 v3 : Value) (x : Int32) (st : List Value) (S : aS) (h : aH) : ev d 208 156 [v0, v1, .int x, v3] st S h = ev d 208 157 [v0, v1, .int x, v3] (.int x :: st) S h := u_LdI rfl rfl d st S h
theorem u208_157 (d : Nat) (ls : List Value) (x : Int32) (S : aS) (h : aH) : ev d 208 157 ls [.int x] S h = some (some (.int x), S, h) := u_RetI rfl d ls x S h
theorem u208_158 (d : Nat) (v1 v2 v3 : Value) (x : Nat) (st : List Value) (S : aS) (h : aH) : ev d 208 158 [.ref x, v1, v2, v3] st S h = ev d 208 159 [.ref x, v1, v2, v3] (.ref x :: st) S h := u_LdA rfl rfl d st S h
theorem u208_159 (d : Nat) (ls : List Value) (c : Nat) (st : List Value) (S : aS) (h : aH) : ev d 208 159 ls (.ref c :: st) S h = gd (aK S c = 11) (ev d 208 162 ls (.int (h.1 c 9) :: st) S h) := u_GetI (P := fun k => k = 11) rfl d ls c st S h
theorem u208_162 (d : Nat) (ls : List Value) (x : Int32) (S : aS) (h : aH) : ev d 208 162 ls [.int x] S h = some (some (.int x), S, h) := u_RetI rfl d ls x S h
theorem u208_163 (d : Nat) (ls st : List Value) (S : aS) (h : aH) : ev d 208 163 ls st S h = ev d 208 165 ls (.int (-1000001) :: st) S h := u_Push rfl d ls st S h
theorem u208_165 (d : Nat) (ls : List Value) (x : Int32) (S : aS) (h : aH) : ev d 208 165 ls [.int x] S h = some (some (.int x), S, h) := u_RetI rfl d ls x S h
theorem c208 (d : Nat) (c : Nat) (x0 : Int32) (S : aS) (h : aH) : call d 208 [.ref c, .int x0] S h = ev d 208 0 [.ref c, .int x0, .null, .null] [] S h := gd_pos (show 2 ≤ 4 by decide) _
theorem u209_0 (d : Nat) (x : Nat) (st : List Value) (S : aS) (h : aH) : ev d 209 0 [.ref x] st S h = ev d 209 1 [.ref x] (.ref x :: st) S h := u_LdA rfl rfl d st S h
theorem u209_1 (d : Nat) (ls st : List Value) (S : aS) (h : aH) : ev d 209 1 ls st S h = ev d 209 2 ls (.int 0 :: st) S h := u_Push rfl d ls st S h
theorem u209_2 (d : Nat) (ls : List Value) (x : Int32) (c : Nat) (st : List Value) (S : aS) (h : aH) : ev d 209 2 ls (.int x :: .ref c :: st) S h = gd (aK S c = 11) (ev d 209 5 ls st S (sI h c 0 x)) := u_PutI (P := fun k => k = 11) rfl d ls x c st S h
theorem u209_5 (d : Nat) (x : Nat) (st : List Value) (S : aS) (h : aH) : ev d 209 5 [.ref x] st S h = ev d 209 6 [.ref x] (.ref x :: st) S h := u_LdA rfl rfl d st S h
theorem u209_6 (d : Nat) (ls : List Value) (c : Nat) (st : List Value) (S : aS) (h : aH) : ev d 209 6 ls (.ref c :: st) S h = gd (aK S c = 11) (ev d 209 9 ls (.int (h.1 c 1) :: st) S h) := u_GetI (P := fun k => k = 11) rfl d ls c st S h
theorem u209_9 (d : Nat) (ls : List Value) (x : Int32) (S : aS) (h : aH) : ev d 209 9 ls [.int x] S h = some (some (.int x), S, h) := u_RetI rfl d ls x S h
theorem c209 (d : Nat) (c : Nat) (S : aS) (h : aH) : call d 209 [.ref c] S h = ev d 209 0 [.ref c] [] S h := gd_pos (show 1 ≤ 1 by decide) _
theorem u210_0 (d : Nat) (v1 : Value) (x : Int64) (st : List Value) (S : aS) (h : aH) : ev d 210 0 [.long x, v1] st S h = ev d 210 1 [.long x, v1] (.long x :: st) S h := u_LdL rfl rfl d st S h
theorem u210_1 (d : Nat) (v1 : Value) (x : Int64) (st : List Value) (S : aS) (h : aH) : ev d 210 1 [.long x, v1] st S h = ev d 210 2 [.long x, v1] (.long x :: st) S h := u_LdL rfl rfl d st S h
theorem u210_2 (d : Nat) (ls st : List Value) (S : aS) (h : aH) : ev d 210 2 ls st S h = ev d 210 3 ls (.int 1 :: st) S h := u_Push rfl d ls st S h
theorem u210_3 (d : Nat) (ls : List Value) (y : Int32) (x : Int64) (st : List Value) (S : aS) (h : aH) : ev d 210 3 ls (.int y :: .long x :: st) S h = ev d 210 4 ls (.long ((x.toUInt64 >>> (y.toInt64.toUInt64 &&& Int64.toUInt64 63)).toInt64) :: st) S h := u_LSh (f := fun x y => (x.toUInt64 >>> (y.toInt64.toUInt64 &&& Int64.toUInt64 63)).toInt64) rfl d ls y x st S h
theorem u210_4 (d : Nat) (ls st : List Value) (S : aS) (h : aH) : ev d 210 4 ls st S h = ev d 210 7 ls (.long 6148914691236517205 :: st) S h := u_Push rfl d ls st S h
theorem u210_7 (d : Nat) (ls : List Value) (y x : Int64) (st : List Value) (S : aS) (h : aH) : ev d 210 7 ls (.long y :: .long x :: st) S h = ev d 210 8 ls (.long (x &&& y) :: st) S h := u_LL (f := fun x y => x &&& y) rfl d ls y x st S h
theorem u210_8 (d : Nat) (ls : List Value) (y x : Int64) (st : List Value) (S : aS) (h : aH) : ev d 210 8 ls (.long y :: .long x :: st) S h = ev d 210 9 ls (.long (x - y) :: st) S h := u_LL (f := fun x y => x - y) rfl d ls y x st S h
theorem u210_9 (d : Nat) (ls : List Value) (x : Int64) (st : List Value) (S : aS) (h : aH) : ev d 210 9 ls (.long x :: st) S h = ev d 210 10 (lset2 ls 0 (.long x)) st S h := u_StL rfl d ls x st S h
theorem u210_10 (d : Nat) (v1 : Value) (x : Int64) (st : List Value) (S : aS) (h : aH) : ev d 210 10 [.long x, v1] st S h = ev d 210 11 [.long x, v1] (.long x :: st) S h := u_LdL rfl rfl d st S h
theorem u210_11 (d : Nat) (ls st : List Value) (S : aS) (h : aH) : ev d 210 11 ls st S h = ev d 210 14 ls (.long 3689348814741910323 :: st) S h := u_Push rfl d ls st S h
theorem u210_14 (d : Nat) (ls : List Value) (y x : Int64) (st : List Value) (S : aS) (h : aH) : ev d 210 14 ls (.long y :: .long x :: st) S h = ev d 210 15 ls (.long (x &&& y) :: st) S h := u_LL (f := fun x y => x &&& y) rfl d ls y x st S h
theorem u210_15 (d : Nat) (v1 : Value) (x : Int64) (st : List Value) (S : aS) (h : aH) : ev d 210 15 [.long x, v1] st S h = ev d 210 16 [.long x, v1] (.long x :: st) S h := u_LdL rfl rfl d st S h
theorem u210_16 (d : Nat) (ls st : List Value) (S : aS) (h : aH) : ev d 210 16 ls st S h = ev d 210 17 ls (.int 2 :: st) S h := u_Push rfl d ls st S h
theorem u210_17 (d : Nat) (ls : List Value) (y : Int32) (x : Int64) (st : List Value) (S : aS) (h : aH) : ev d 210 17 ls (.int y :: .long x :: st) S h = ev d 210 18 ls (.long ((x.toUInt64 >>> (y.toInt64.toUInt64 &&& Int64.toUInt64 63)).toInt64) :: st) S h := u_LSh (f := fun x y => (x.toUInt64 >>> (y.toInt64.toUInt64 &&& Int64.toUInt64 63)).toInt64) rfl d ls y x st S h
theorem u210_18 (d : Nat) (ls st : List Value) (S : aS) (h : aH) : ev d 210 18 ls st S h = ev d 210 21 ls (.long 3689348814741910323 :: st) S h := u_Push rfl d ls st S h
theorem u210_21 (d : Nat) (ls : List Value) (y x : Int64) (st : List Value) (S : aS) (h : aH) : ev d 210 21 ls (.long y :: .long x :: st) S h = ev d 210 22 ls (.long (x &&& y) :: st) S h := u_LL (f := fun x y => x &&& y) rfl d ls y x st S h
theorem u210_22 (d : Nat) (ls : List Value) (y x : Int64) (st : List Value) (S : aS) (h : aH) : ev d 210 22 ls (.long y :: .long x :: st) S h = ev d 210 23 ls (.long (x + y) :: st) S h := u_LL (f := fun x y => x + y) rfl d ls y x st S h
theorem u210_23 (d : Nat) (ls : List Value) (x : Int64) (st : List Value) (S : aS) (h : aH) : ev d 210 23 ls (.long x :: st) S h = ev d 210 24 (lset2 ls 0 (.long x)) st S h := u_StL rfl d ls x st S h
theorem u210_24 (d : Nat) (v1 : Value) (x : Int64) (st : List Value) (S : aS) (h : aH) : ev d 210 24 [.long x, v1] st S h = ev d 210 25 [.long x, v1] (.long x :: st) S h := u_LdL rfl rfl d st S h
theorem u210_25 (d : Nat) (v1 : Value) (x : Int64) (st : List Value) (S : aS) (h : aH) : ev d 210 25 [.long x, v1] st S h = ev d 210 26 [.long x, v1] (.long x :: st) S h := u_LdL rfl rfl d st S h
theorem u210_26 (d : Nat) (ls st : List Value) (S : aS) (h : aH) : ev d 210 26 ls st S h = ev d 210 27 ls (.int 4 :: st) S h := u_Push rfl d ls st S h
theorem u210_27 (d : Nat) (ls : List Value) (y : Int32) (x : Int64) (st : List Value) (S : aS) (h : aH) : ev d 210 27 ls (.int y :: .long x :: st) S h = ev d 210 28 ls (.long ((x.toUInt64 >>> (y.toInt64.toUInt64 &&& Int64.toUInt64 63)).toInt64) :: st) S h := u_LSh (f := fun x y => (x.toUInt64 >>> (y.toInt64.toUInt64 &&& Int64.toUInt64 63)).toInt64) rfl d ls y x st S h
theorem u210_28 (d : Nat) (ls : List Value) (y x : Int64) (st : List Value) (S : aS) (h : aH) : ev d 210 28 ls (.long y :: .long x :: st) S h = ev d 210 29 ls (.long (x + y) :: st) S h := u_LL (f := fun x y => x + y) rfl d ls y x st S h
theorem u210_29 (d : Nat) (ls st : List Value) (S : aS) (h : aH) : ev d 210 29 ls st S h = ev d 210 32 ls (.long 1085102592571150095 :: st) S h := u_Push rfl d ls st S h
theorem u210_32 (d : Nat) (ls : List Value) (y x : Int64) (st : List Value) (S : aS) (h : aH) : ev d 210 32 ls (.long y :: .long x :: st) S h = ev d 210 33 ls (.long (x &&& y) :: st) S h := u_LL (f := fun x y => x &&& y) rfl d ls y x st S h
theorem u210_33 (d : Nat) (ls : List Value) (x : Int64) (st : List Value) (S : aS) (h : aH) : ev d 210 33 ls (.long x :: st) S h = ev d 210 34 (lset2 ls 0 (.long x)) st S h := u_StL rfl d ls x st S h
theorem u210_34 (d : Nat) (v1 : Value) (x : Int64) (st : List Value) (S : aS) (h : aH) : ev d 210 34 [.long x, v1] st S h = ev d 210 35 [.long x, v1] (.long x :: st) S h := u_LdL rfl rfl d st S h
theorem u210_35 (d : Nat) (v1 : Value) (x : Int64) (st : List Value) (S : aS) (h : aH) : ev d 210 35 [.long x, v1] st S h = ev d 210 36 [.long x, v1] (.long x :: st) S h := u_LdL rfl rfl d st S h
theorem u210_36 (d : Nat) (ls st : List Value) (S : aS) (h : aH) : ev d 210 36 ls st S h = ev d 210 38 ls (.int 8 :: st) S h := u_Push rfl d ls st S h
theorem u210_38 (d : Nat) (ls : List Value) (y : Int32) (x : Int64) (st : List Value) (S : aS) (h : aH) : ev d 210 38 ls (.int y :: .long x :: st) S h = ev d 210 39 ls (.long ((x.toUInt64 >>> (y.toInt64.toUInt64 &&& Int64.toUInt64 63)).toInt64) :: st) S h := u_LSh (f := fun x y => (x.toUInt64 >>> (y.toInt64.toUInt64 &&& Int64.toUInt64 63)).toInt64) rfl d ls y x st S h
theorem u210_39 (d : Nat) (ls : List Value) (y x : Int64) (st : List Value) (S : aS) (h : aH) : ev d 210 39 ls (.long y :: .long x :: st) S h = ev d 210 40 ls (.long (x + y) :: st) S h := u_LL (f := fun x y => x + y) rfl d ls y x st S h
theorem u210_40 (d : Nat) (ls : List Value) (x : Int64) (st : List Value) (S : aS) (h : aH) : ev d 210 40 ls (.long x :: st) S h = ev d 210 41 (lset2 ls 0 (.long x)) st S h := u_StL rfl d ls x st S h
theorem u210_41 (d : Nat) (v1 : Value) (x : Int64) (st : List Value) (S : aS) (h : aH) : ev d 210 41 [.long x, v1] st S h = ev d 210 42 [.long x, v1] (.long x :: st) S h := u_LdL rfl rfl d st S h
theorem u210_42 (d : Nat) (v1 : Value) (x : Int64) (st : List Value) (S : aS) (h : aH) : ev d 210 42 [.long x, v1] st S h = ev d 210 43 [.long x, v1] (.long x :: st) S h := u_LdL rfl rfl d st S h
theorem u210_43 (d : Nat) (ls st : List Value) (S : aS) (h : aH) : ev d 210 43 ls st S h = ev d 210 45 ls (.int 16 :: st) S h := u_Push rfl d ls st S h
theorem u210_45 (d : Nat) (ls : List Value) (y : Int32) (x : Int64) (st : List Value) (S : aS) (h : aH) : ev d 210 45 ls (.int y :: .long x :: st) S h = ev d 210 46 ls (.long ((x.toUInt64 >>> (y.toInt64.toUInt64 &&& Int64.toUInt64 63)).toInt64) :: st) S h := u_LSh (f := fun x y => (x.toUInt64 >>> (y.toInt64.toUInt64 &&& Int64.toUInt64 63)).toInt64) rfl d ls y x st S h
theorem u210_46 (d : Nat) (ls : List Value) (y x : Int64) (st : List Value) (S : aS) (h : aH) : ev d 210 46 ls (.long y :: .long x :: st) S h = ev d 210 47 ls (.long (x + y) :: st) S h := u_LL (f := fun x y => x + y) rfl d ls y x st S h
theorem u210_47 (d : Nat) (ls : List Value) (x : Int64) (st : List Value) (S : aS) (h : aH) : ev d 210 47 ls (.long x :: st) S h = ev d 210 48 (lset2 ls 0 (.long x)) st S h := u_StL rfl d ls x st S h
theorem u210_48 (d : Nat) (v1 : Value) (x : Int64) (st : List Value) (S : aS) (h : aH) : ev d 210 48 [.long x, v1] st S h = ev d 210 49 [.long x, v1] (.long x :: st) S h := u_LdL rfl rfl d st S h
theorem u210_49 (d : Nat) (v1 : Value) (x : Int64) (st : List Value) (S : aS) (h : aH) : ev d 210 49 [.long x, v1] st S h = ev d 210 50 [.long x, v1] (.long x :: st) S h := u_LdL rfl rfl d st S h
theorem u210_50 (d : Nat) (ls st : List Value) (S : aS) (h : aH) : ev d 210 50 ls st S h = ev d 210 52 ls (.int 32 :: st) S h := u_Push rfl d ls st S h
theorem u210_52 (d : Nat) (ls : List Value) (y : Int32) (x : Int64) (st : List Value) (S : aS) (h : aH) : ev d 210 52 ls (.int y :: .long x :: st) S h = ev d 210 53 ls (.long ((x.toUInt64 >>> (y.toInt64.toUInt64 &&& Int64.toUInt64 63)).toInt64) :: st) S h := u_LSh (f := fun x y => (x.toUInt64 >>> (y.toInt64.toUInt64 &&& Int64.toUInt64 63)).toInt64) rfl d ls y x st S h
theorem u210_53 (d : Nat) (ls : List Value) (y x : Int64) (st : List Value) (S : aS) (h : aH) : ev d 210 53 ls (.long y :: .long x :: st) S h = ev d 210 54 ls (.long (x + y) :: st) S h := u_LL (f := fun x y => x + y) rfl d ls y x st S h
theorem u210_54 (d : Nat) (ls : List Value) (x : Int64) (st : List Value) (S : aS) (h : aH) : ev d 210 54 ls (.long x :: st) S h = ev d 210 55 (lset2 ls 0 (.long x)) st S h := u_StL rfl d ls x st S h
theorem u210_55 (d : Nat) (v1 : Value) (x : Int64) (st : List Value) (S : aS) (h : aH) : ev d 210 55 [.long x, v1] st S h = ev d 210 56 [.long x, v1] (.long x :: st) S h := u_LdL rfl rfl d st S h
theorem u210_56 (d : Nat) (ls : List Value) (x : Int64) (st : List Value) (S : aS) (h : aH) : ev d 210 56 ls (.long x :: st) S h = ev d 210 57 ls (.int (x.toInt32) :: st) S h := u_LI (f := fun x => x.toInt32) rfl d ls x st S h
theorem u210_57 (d : Nat) (ls st : List Value) (S : aS) (h : aH) : ev d 210 57 ls st S h = ev d 210 59 ls (.int 127 :: st) S h := u_Push rfl d ls st S h
theorem u210_59 (d : Nat) (ls : List Value) (y x : Int32) (st : List Value) (S : aS) (h : aH) : ev d 210 59 ls (.int y :: .int x :: st) S h = ev d 210 60 ls (.int (x &&& y) :: st) S h := u_II (f := fun x y => x &&& y) rfl d ls y x st S h
theorem u210_60 (d : Nat) (ls : List Value) (x : Int32) (S : aS) (h : aH) : ev d 210 60 ls [.int x] S h = some (some (.int x), S, h) := u_RetI rfl d ls x S h
theorem c210 (d : Nat) (x0 : Int64) (S : aS) (h : aH) : call d 210 [.long x0] S h = ev d 210 0 [.long x0, .null] [] S h := gd_pos (show 2 ≤ 2 by decide) _
theorem u211_0 (d : Nat) (x : Nat) (st : List Value) (S : aS) (h : aH) : ev d 211 0 [.ref x] st S h = ev d 211 1 [.ref x] (.ref x :: st) S h := u_LdA rfl rfl d st S h
theorem u211_1 (d : Nat) (ls : List Value) (c : Nat) (st : List Value) (S : aS) (h : aH) : ev d 211 1 ls (.ref c :: st) S h = gd (aK S c = 201) (ev d 211 4 ls (.ref (c + 3) :: st) S h) := u_StrV rfl d ls c st S h
theorem u211_4 (d : Nat) (ls : List Value) (c : Nat) (st : List Value) (S : aS) (h : aH) : ev d 211 4 ls (.ref c :: st) S h = gd (100 ≤ aK S c ∧ aK S c ≤ 202 ∧ ¬ aK S c = 201) (ev d 211 5 ls (.int (Int32.ofNat (aL S c)) :: st) S h) := u_Len rfl d ls c st S h
theorem u211_5 (d : Nat) (x : Nat) (st : List Value) (S : aS) (h : aH) : ev d 211 5 [.ref x] st S h = ev d 211 6 [.ref x] (.ref x :: st) S h := u_LdA rfl rfl d st S h
theorem u211_6 (d : Nat) (ls : List Value) (c : Nat) (st : List Value) (S : aS) (h : aH) : ev (d + 1) 211 6 ls (.ref c :: st) S h = gd (aK S c = 201) (gd (cs st ≤ 8) ((call d 213 [.ref c] S h).bind fun r => ev (d + 1) 211 9 ls (r.1.toList ++ st) r.2.1 r.2.2)) := u_CalV1 (as := []) rfl rfl d ls c st S h
theorem u211_9 (d : Nat) (ls : List Value) (y x : Int32) (st : List Value) (S : aS) (h : aH) : ev d 211 9 ls (.int y :: .int x :: st) S h = ev d 211 10 ls (.int (x >>> (y &&& 31)) :: st) S h := u_II (f := fun x y => x >>> (y &&& 31)) rfl d ls y x st S h
theorem u211_10 (d : Nat) (ls : List Value) (x : Int32) (S : aS) (h : aH) : ev d 211 10 ls [.int x] S h = some (some (.int x), S, h) := u_RetI rfl d ls x S h
theorem c211 (d : Nat) (c : Nat) (S : aS) (h : aH) : call d 211 [.ref c] S h = ev d 211 0 [.ref c] [] S h := gd_pos (show 1 ≤ 1 by decide) _
theorem u212_0 (d : Nat) (v1 : Value) (x : Nat) (st : List Value) (S : aS) (h : aH) : ev d 212 0 [.ref x, v1] st S h = ev d 212 1 [.ref x, v1] (.ref x :: st) S h := u_LdA rfl rfl d st S h
theorem u212_1 (d : Nat) (ls : List Value) (c : Nat) (st : List Value) (S : aS) (h : aH) : ev (d + 1) 212 1 ls (.ref c :: st) S h = gd (aK S c = 201) (gd (cs st ≤ 8) ((call d 214 [.ref c] S h).bind fun r => ev (d + 1) 212 4 ls (r.1.toList ++ st) r.2.1 r.2.2)) := u_CalV1 (as := []) rfl rfl d ls c st S h
theorem u212_4 (d : Nat) (ls : List Value) (x : Int32) (st : List Value) (S : aS) (h : aH) : ev d 212 4 ls (.int x :: st) S h = br (x = 0) (ev d 212 16 ls st S h) (ev d 212 7 ls st S h) := u_If (P := fun x => x = 0) rfl d ls x st S h
theorem u212_7 (d : Nat) (v1 : Value) (x : Nat) (st : List Value) (S : aS) (h : aH) : ev d 212 7 [.ref x, v1] st S h = ev d 212 8 [.ref x, v1] (.ref x :: st) S h := u_LdA rfl rfl d st S h
theorem u212_8 (d : Nat) (ls : List Value) (c : Nat) (st : List Value) (S : aS) (h : aH) : ev d 212 8 ls (.ref c :: st) S h = gd (aK S c = 201) (ev d 212 11 ls (.ref (c + 3) :: st) S h) := u_StrV rfl d ls c st S h
theorem u212_11 (d : Nat) (v0 : Value) (x : Int32) (st : List Value) (S : aS) (h : aH) : ev d 212 11 [v0, .int x] st S h = ev d 212 12 [v0, .int x] (.int x :: st) S h := u_LdI rfl rfl d st S h
theorem u212_12 (d : Nat) (ls : List Value) (a0 a1 : Value) (st : List Value) (S : aS) (h : aH) : ev (d + 1) 212 12 ls (a0 :: a1 :: st) S h = gd (cs st ≤ 8) ((call d 216 [a1, a0] S h).bind fun r => ev (d + 1) 212 15 ls (r.1.toList ++ st) r.2.1 r.2.2) := u_Call (as := [a0, a1]) rfl rfl d ls st S h
theorem u212_15 (d : Nat) (ls : List Value) (x : Int32) (S : aS) (h : aH) : ev d 212 15 ls [.int x] S h = gd (vp_nar .char x = x) (some (some (.int x), S, h)) := u_RetN rfl d ls x S h
theorem u212_16 (d : Nat) (v1 : Value) (x : Nat) (st : List Value) (S : aS) (h : aH) : ev d 212 16 [.ref x, v1] st S h = ev d 212 17 [.ref x, v1] (.ref x :: st) S h := u_LdA rfl rfl d st S h
theorem u212_17 (d : Nat) (ls : List Value) (c : Nat) (st : List Value) (S : aS) (h : aH) : ev d 212 17 ls (.ref c :: st) S h = gd (aK S c = 201) (ev d 212 20 ls (.ref (c + 3) :: st) S h) := u_StrV rfl d ls c st S h
theorem u212_20 (d : Nat) (v0 : Value) (x : Int32) (st : List Value) (S : aS) (h : aH) : ev d 212 20 [v0, .int x] st S h = ev d 212 21 [v0, .int x] (.int x :: st) S h := u_LdI rfl rfl d st S h
theorem u212_24 (d : Nat) (ls : List Value) (x : Int32) (S : aS) (h : aH) : ev d 212 24 ls [.int x] S h = gd (vp_nar .char x = x) (some (some (.int x), S, h)) := u_RetN rfl d ls x S h
theorem c212 (d : Nat) (c : Nat) (x0 : Int32) (S : aS) (h : aH) : call d 212 [.ref c, .int x0] S h = ev d 212 0 [.ref c, .int x0] [] S h := gd_pos (show 2 ≤ 2 by decide) _
theorem u213_0 (d : Nat) (ls st : List Value) (S : aS) (h : aH) : ev d 213 0 ls st S h = ev d 213 3 ls (.int 1 :: st) S h := u_Push rfl d ls st S h
theorem u213_3 (d : Nat) (ls : List Value) (x : Int32) (st : List Value) (S : aS) (h : aH) : ev d 213 3 ls (.int x :: st) S h = br (x = 0) (ev d 213 13 ls st S h) (ev d 213 6 ls st S h) := u_If (P := fun x => x = 0) rfl d ls x st S h
theorem u213_6 (d : Nat) (x : Nat) (st : List Value) (S : aS) (h : aH) : ev d 213 6 [.ref x] st S h = ev d 213 7 [.ref x] (.ref x :: st) S h := u_LdA rfl rfl d st S h
theorem u213_7 (d : Nat) (ls : List Value) (c : Nat) (st : List Value) (S : aS) (h : aH) : ev d 213 7 ls (.ref c :: st) S h = gd (aK S c = 201) (ev d 213 10 ls (.int 0 :: st) S h) := u_StrC rfl d ls c st S h
theorem u213_10 (d : Nat) (ls st : List Value) (S : aS) (h : aH) : ev d 213 10 ls st S h = ev d 213 14 ls st S h := u_Go rfl d ls st S h
theorem u213_13 (d : Nat) (ls st : List Value) (S : aS) (h : aH) : ev d 213 13 ls st S h = ev d 213 14 ls (.int 1 :: st) S h := u_Push rfl d ls st S h
theorem u213_14 (d : Nat) (ls : List Value) (x : Int32) (S : aS) (h : aH) : ev d 213 14 ls [.int x] S h = gd (vp_nar .byte x = x) (some (some (.int x), S, h)) := u_RetN rfl d ls x S h
theorem c213 (d : Nat) (c : Nat) (S : aS) (h : aH) : call d 213 [.ref c] S h = ev d 213 0 [.ref c] [] S h := gd_pos (show 1 ≤ 1 by decide) _
theorem u214_0 (d : Nat) (ls st : List Value) (S : aS) (h : aH) : ev d 214 0 ls st S h = ev d 214 3 ls (.int 1 :: st) S h := u_Push rfl d ls st S h
theorem u214_3 (d : Nat) (ls : List Value) (x : Int32) (st : List Value) (S : aS) (h : aH) : ev d 214 3 ls (.int x :: st) S h = br (x = 0) (ev d 214 17 ls st S h) (ev d 214 6 ls st S h) := u_If (P := fun x => x = 0) rfl d ls x st S h
theorem u214_6 (d : Nat) (x : Nat) (st : List Value) (S : aS) (h : aH) : ev d 214 6 [.ref x] st S h = ev d 214 7 [.ref x] (.ref x :: st) S h := u_LdA rfl rfl d st S h
theorem u214_7 (d : Nat) (ls : List Value) (c : Nat) (st : List Value) (S : aS) (h : aH) : ev d 214 7 ls (.ref c :: st) S h = gd (aK S c = 201) (ev d 214 10 ls (.int 0 :: st) S h) := u_StrC rfl d ls c st S h
theorem u214_10 (d : Nat) (ls : List Value) (x : Int32) (st : List Value) (S : aS) (h : aH) : ev d 214 10 ls (.int x :: st) S h = br (¬ x = 0) (ev d 214 17 ls st S h) (ev d 214 13 ls st S h) := u_If (P := fun x => ¬ x = 0) rfl d ls x st S h
theorem u214_13 (d : Nat) (ls st : List Value) (S : aS) (h : aH) : ev d 214 13 ls st S h = ev d 214 14 ls (.int 1 :: st) S h := u_Push rfl d ls st S h
theorem u214_14 (d : Nat) (ls st : List Value) (S : aS) (h : aH) : ev d 214 14 ls st S h = ev d 214 18 ls st S h := u_Go rfl d ls st S h
theorem u214_17 (d : Nat) (ls st : List Value) (S : aS) (h : aH) : ev d 214 17 ls st S h = ev d 214 18 ls (.int 0 :: st) S h := u_Push rfl d ls st S h
theorem u214_18 (d : Nat) (ls : List Value) (x : Int32) (S : aS) (h : aH) : ev d 214 18 ls [.int x] S h = gd (vp_nar .boolean x = x) (some (some (.int x), S, h)) := u_RetN rfl d ls x S h
theorem c214 (d : Nat) (c : Nat) (S : aS) (h : aH) : call d 214 [.ref c] S h = ev d 214 0 [.ref c] [] S h := gd_pos (show 1 ≤ 1 by decide) _
theorem u215_0 (d : Nat) (v1 : Value) (x : Int32) (st : List Value) (S : aS) (h : aH) : ev d 215 0 [.int x, v1] st S h = ev d 215 1 [.int x, v1] (.int x :: st) S h := u_LdI rfl rfl d st S h
theorem u215_1 (d : Nat) (v0 : Value) (x : Int32) (st : List Value) (S : aS) (h : aH) : ev d 215 1 [v0, .int x] st S h = ev d 215 2 [v0, .int x] (.int x :: st) S h := u_LdI rfl rfl d st S h
theorem u215_2 (d : Nat) (ls st : List Value) (S : aS) (h : aH) : ev d 215 2 ls st S h = ev d 215 5 ls (.retAddr 0 :: st) S h := u_Push rfl d ls st S h
theorem u215_5 (d : Nat) (ls : List Value) (a0 a1 a2 : Value) (st : List Value) (S : aS) (h : aH) : ev (d + 1) 215 5 ls (a0 :: a1 :: a2 :: st) S h = gd (cs st ≤ 8) ((call d 217 [a2, a1, a0] S h).bind fun r => ev (d + 1) 215 8 ls (r.1.toList ++ st) r.2.1 r.2.2) := u_Call (as := [a0, a1, a2]) rfl rfl d ls st S h
theorem u215_8 (d : Nat) (ls : List Value) (x : Int32) (st : List Value) (S : aS) (h : aH) : ev d 215 8 ls (.int x :: st) S h = ev d 215 9 ls st S h := u_PopI rfl d ls x st S h
theorem u215_9 (d : Nat) (ls : List Value) (S : aS) (h : aH) : ev d 215 9 ls [] S h = some (none, S, h) := u_RetV rfl d ls S h
theorem c215 (d : Nat) (x0 : Int32) (x1 : Int32) (S : aS) (h : aH) : call d 215 [.int x0, .int x1] S h = ev d 215 0 [.int x0, .int x1] [] S h := gd_pos (show 2 ≤ 2 by decide) _
theorem u216_0 (d : Nat) (v0 : Value) (x : Int32) (st : List Value) (S : aS) (h : aH) : ev d 216 0 [v0, .int x] st S h = ev d 216 1 [v0, .int x] (.int x :: st) S h := u_LdI rfl rfl d st S h
theorem u216_1 (d : Nat) (v1 : Value) (x : Nat) (st : List Value) (S : aS) (h : aH) : ev d 216 1 [.ref x, v1] st S h = ev d 216 2 [.ref x, v1] (.ref x :: st) S h := u_LdA rfl rfl d st S h
theorem u216_2 (d : Nat) (ls : List Value) (c : Nat) (st : List Value) (S : aS) (h : aH) : ev d 216 2 ls (.ref c :: st) S h = gd (100 ≤ aK S c ∧ aK S c ≤ 202 ∧ ¬ aK S c = 201) (ev d 216 3 ls (.int (Int32.ofNat (aL S c)) :: st) S h) := u_Len rfl d ls c st S h
theorem u216_3 (d : Nat) (ls : List Value) (a0 a1 : Value) (st : List Value) (S : aS) (h : aH) : ev (d + 1) 216 3 ls (a0 :: a1 :: st) S h = gd (cs st ≤ 8) ((call d 215 [a1, a0] S h).bind fun r => ev (d + 1) 216 6 ls (r.1.toList ++ st) r.2.1 r.2.2) := u_Call (as := [a0, a1]) rfl rfl d ls st S h
theorem u216_6 (d : Nat) (v1 : Value) (x : Nat) (st : List Value) (S : aS) (h : aH) : ev d 216 6 [.ref x, v1] st S h = ev d 216 7 [.ref x, v1] (.ref x :: st) S h := u_LdA rfl rfl d st S h
theorem u216_7 (d : Nat) (v0 : Value) (x : Int32) (st : List Value) (S : aS) (h : aH) : ev d 216 7 [v0, .int x] st S h = ev d 216 8 [v0, .int x] (.int x :: st) S h := u_LdI rfl rfl d st S h
theorem u216_8 (d : Nat) (ls : List Value) (i : Int32) (c : Nat) (st : List Value) (S : aS) (h : aH) : ev d 216 8 ls (.int i :: .ref c :: st) S h = gd (aK S c = 101 ∨ aK S c = 102 ∨ aK S c = 202) (gd (inB i (aL S c)) (ev d 216 9 ls (.int (h.1 c i.toNatClampNeg) :: st) S h)) := u_ALdB rfl d ls i c st S h
theorem u216_9 (d : Nat) (ls st : List Value) (S : aS) (h : aH) : ev d 216 9 ls st S h = ev d 216 12 ls (.int 255 :: st) S h := u_Push rfl d ls st S h
theorem u216_12 (d : Nat) (ls : List Value) (y x : Int32) (st : List Value) (S : aS) (h : aH) : ev d 216 12 ls (.int y :: .int x :: st) S h = ev d 216 13 ls (.int (x &&& y) :: st) S h := u_II (f := fun x y => x &&& y) rfl d ls y x st S h
theorem u216_13 (d : Nat) (ls : List Value) (x : Int32) (st : List Value) (S : aS) (h : aH) : ev d 216 13 ls (.int x :: st) S h = ev d 216 14 ls (.int ((x.toUInt32 % 65536).toInt32) :: st) S h := u_I (f := fun x => (x.toUInt32 % 65536).toInt32) rfl d ls x st S h
theorem u216_14 (d : Nat) (ls : List Value) (x : Int32) (S : aS) (h : aH) : ev d 216 14 ls [.int x] S h = gd (vp_nar .char x = x) (some (some (.int x), S, h)) := u_RetN rfl d ls x S h
theorem c216 (d : Nat) (x0 : Nat) (x1 : Int32) (S : aS) (h : aH) : call d 216 [.ref x0, .int x1] S h = ev d 216 0 [.ref x0, .int x1] [] S h := gd_pos (show 2 ≤ 2 by decide) _
theorem u217_0 (d : Nat) (v1 v2 : Value) (x : Int32) (st : List Value) (S : aS) (h : aH) : ev d 217 0 [.int x, v1, v2] st S h = ev d 217 1 [.int x, v1, v2] (.int x :: st) S h := u_LdI rfl rfl d st S h
theorem u217_1 (d : Nat) (ls : List Value) (x : Int32) (st : List Value) (S : aS) (h : aH) : ev d 217 1 ls (.int x :: st) S h = br (x < 0) (ev d 217 9 ls st S h) (ev d 217 4 ls st S h) := u_If (P := fun x => x < 0) rfl d ls x st S h
theorem u217_4 (d : Nat) (v1 v2 : Value) (x : Int32) (st : List Value) (S : aS) (h : aH) : ev d 217 4 [.int x, v1, v2] st S h = ev d 217 5 [.int x, v1, v2] (.int x :: st) S h := u_LdI rfl rfl d st S h
theorem u217_5 (d : Nat) (v0 v2 : Value) (x : Int32) (st : List Value) (S : aS) (h : aH) : ev d 217 5 [v0, .int x, v2] st S h = ev d 217 6 [v0, .int x, v2] (.int x :: st) S h := u_LdI rfl rfl d st S h
theorem u217_6 (d : Nat) (ls : List Value) (y x : Int32) (st : List Value) (S : aS) (h : aH) : ev d 217 6 ls (.int y :: .int x :: st) S h = br (x < y) (ev d 217 16 ls st S h) (ev d 217 9 ls st S h) := u_Ic (P := fun x y => x < y) rfl d ls y x st S h
theorem u217_9 (d : Nat) (v0 v1 : Value) (x : Nat) (st : List Value) (S : aS) (h : aH) : ev d 217 9 [v0, v1, .ref x] st S h = ev d 217 10 [v0, v1, .ref x] (.ref x :: st) S h := u_LdA rfl rfl d st S h
theorem u217_10 (d : Nat) (v1 v2 : Value) (x : Int32) (st : List Value) (S : aS) (h : aH) : ev d 217 10 [.int x, v1, v2] st S h = ev d 217 11 [.int x, v1, v2] (.int x :: st) S h := u_LdI rfl rfl d st S h
theorem u217_11 (d : Nat) (v0 v2 : Value) (x : Int32) (st : List Value) (S : aS) (h : aH) : ev d 217 11 [v0, .int x, v2] st S h = ev d 217 12 [v0, .int x, v2] (.int x :: st) S h := u_LdI rfl rfl d st S h
theorem u217_16 (d : Nat) (v1 v2 : Value) (x : Int32) (st : List Value) (S : aS) (h : aH) : ev d 217 16 [.int x, v1, v2] st S h = ev d 217 17 [.int x, v1, v2] (.int x :: st) S h := u_LdI rfl rfl d st S h
theorem u217_17 (d : Nat) (ls : List Value) (x : Int32) (S : aS) (h : aH) : ev d 217 17 ls [.int x] S h = some (some (.int x), S, h) := u_RetI rfl d ls x S h
theorem c217 (d : Nat) (x0 : Int32) (x1 : Int32) (S : aS) (h : aH) : call d 217 [.int x0, .int x1, .retAddr 0] S h = ev d 217 0 [.int x0, .int x1, .retAddr 0] [] S h := gd_pos (show 3 ≤ 3 by decide) _
theorem u218_0 (d : Nat) (ls st : List Value) (S : aS) (h : aH) : ev d 218 0 ls st S h = ev d 218 3 ls (.ref S.length :: st) (S ++ [(10, 12, [])]) (sZ h S.length) := u_New rfl d ls st S h
theorem u218_3 (d : Nat) (ls : List Value) (x : Nat) (st : List Value) (S : aS) (h : aH) : ev d 218 3 ls (.ref x :: st) S h = ev d 218 4 ls (.ref x :: .ref x :: st) S h := u_DupA rfl d ls x st S h
theorem u218_3i (d : Nat) (ls : List Value) (x : Int32) (st : List Value) (S : aS) (h : aH) : ev d 218 3 ls (.int x :: st) S h = ev d 218 4 ls (.int x :: .int x :: st) S h := u_DupI rfl d ls x st S h
theorem u218_4 (d : Nat) (ls : List Value) (c : Nat) (st : List Value) (S : aS) (h : aH) : ev (d + 1) 218 4 ls (.ref c :: st) S h = gd (aK S c < 100) (gd (cs st ≤ 8) ((call d 81 [.ref c] S h).bind fun r => ev (d + 1) 218 7 ls (r.1.toList ++ st) r.2.1 r.2.2)) := u_CalS rfl d ls c st S h
theorem u218_7 (d : Nat) (ls : List Value) (x : Nat) (st : List Value) (S : aS) (h : aH) : ev d 218 7 ls (.ref x :: st) S h = ev d 218 8 (lset1 ls 1 (.ref x)) st S h := u_StA rfl d ls x st S h
theorem u218_8 (d : Nat) (ls st : List Value) (S : aS) (h : aH) : ev d 218 8 ls st S h = ev d 218 11 ls (.ref S.length :: st) (S ++ [(11, 37, [])]) (sZ h S.length) := u_New rfl d ls st S h
theorem u218_11 (d : Nat) (ls : List Value) (x : Nat) (st : List Value) (S : aS) (h : aH) : ev d 218 11 ls (.ref x :: st) S h = ev d 218 12 ls (.ref x :: .ref x :: st) S h := u_DupA rfl d ls x st S h
theorem u218_11i (d : Nat) (ls : List Value) (x : Int32) (st : List Value) (S : aS) (h : aH) : ev d 218 11 ls (.int x :: st) S h = ev d 218 12 ls (.int x :: .int x :: st) S h := u_DupI rfl d ls x st S h
theorem u218_12 (d : Nat) (ls : List Value) (c : Nat) (st : List Value) (S : aS) (h : aH) : ev (d + 1) 218 12 ls (.ref c :: st) S h = gd (aK S c < 100) (gd (cs st ≤ 8) ((call d 130 [.ref c] S h).bind fun r => ev (d + 1) 218 15 ls (r.1.toList ++ st) r.2.1 r.2.2)) := u_CalS rfl d ls c st S h
theorem u218_15 (d : Nat) (ls : List Value) (x : Nat) (st : List Value) (S : aS) (h : aH) : ev d 218 15 ls (.ref x :: st) S h = ev d 218 16 (lset1 ls 2 (.ref x)) st S h := u_StA rfl d ls x st S h
theorem u218_16 (d : Nat) (ls st : List Value) (S : aS) (h : aH) : ev d 218 16 ls st S h = ev d 218 17 ls (.int 0 :: st) S h := u_Push rfl d ls st S h
theorem u218_17 (d : Nat) (ls : List Value) (x : Int32) (st : List Value) (S : aS) (h : aH) : ev d 218 17 ls (.int x :: st) S h = ev d 218 18 (lset1 ls 3 (.int x)) st S h := u_StI rfl d ls x st S h
theorem u218_18 (d : Nat) (v0 v1 v2 : Value) (x : Int32) (st : List Value) (S : aS) (h : aH) : ev d 218 18 [v0, v1, v2, .int x] st S h = ev d 218 19 [v0, v1, v2, .int x] (.int x :: st) S h := u_LdI rfl rfl d st S h
theorem u218_19 (d : Nat) (v1 v2 v3 : Value) (x : Nat) (st : List Value) (S : aS) (h : aH) : ev d 218 19 [.ref x, v1, v2, v3] st S h = ev d 218 20 [.ref x, v1, v2, v3] (.ref x :: st) S h := u_LdA rfl rfl d st S h
theorem u218_20 (d : Nat) (ls : List Value) (c : Nat) (st : List Value) (S : aS) (h : aH) : ev d 218 20 ls (.ref c :: st) S h = gd (100 ≤ aK S c ∧ aK S c ≤ 202 ∧ ¬ aK S c = 201) (ev d 218 21 ls (.int (Int32.ofNat (aL S c)) :: st) S h) := u_Len rfl d ls c st S h
theorem u218_21 (d : Nat) (ls st : List Value) (S : aS) (h : aH) : ev d 218 21 ls st S h = ev d 218 23 ls (.int 6 :: st) S h := u_Push rfl d ls st S h
theorem u218_23 (d : Nat) (ls : List Value) (y x : Int32) (st : List Value) (S : aS) (h : aH) : ev d 218 23 ls (.int y :: .int x :: st) S h = ev d 218 24 ls (.int (x - y) :: st) S h := u_II (f := fun x y => x - y) rfl d ls y x st S h
theorem u218_24 (d : Nat) (ls : List Value) (y x : Int32) (st : List Value) (S : aS) (h : aH) : ev d 218 24 ls (.int y :: .int x :: st) S h = br (y < x) (ev d 218 1053 ls st S h) (ev d 218 27 ls st S h) := u_Ic (P := fun x y => y < x) rfl d ls y x st S h
theorem u218_27 (d : Nat) (v1 v2 v3 : Value) (x : Nat) (st : List Value) (S : aS) (h : aH) : ev d 218 27 [.ref x, v1, v2, v3] st S h = ev d 218 28 [.ref x, v1, v2, v3] (.ref x :: st) S h := u_LdA rfl rfl d st S h
theorem u218_28 (d : Nat) (v0 v1 v2 : Value) (x : Int32) (st : List Value) (S : aS) (h : aH) : ev d 218 28 [v0, v1, v2, .int x] st S h = ev d 218 29 [v0, v1, v2, .int x] (.int x :: st) S h := u_LdI rfl rfl d st S h
theorem u218_29 (d : Nat) (ls : List Value) (i : Int32) (c : Nat) (st : List Value) (S : aS) (h : aH) : ev d 218 29 ls (.int i :: .ref c :: st) S h = gd (aK S c = 100 ∨ aK S c = 200) (gd (inB i (aL S c)) (ev d 218 30 ls (.int (h.1 c i.toNatClampNeg) :: st) S h)) := u_ALdI rfl d ls i c st S h
theorem u218_30 (d : Nat) (ls st : List Value) (S : aS) (h : aH) : ev d 218 30 ls st S h = ev d 218 32 ls (.int 31 :: st) S h := u_Push rfl d ls st S h
theorem u218_32 (d : Nat) (ls : List Value) (y x : Int32) (st : List Value) (S : aS) (h : aH) : ev d 218 32 ls (.int y :: .int x :: st) S h = ev d 218 33 ls (.int (x &&& y) :: st) S h := u_II (f := fun x y => x &&& y) rfl d ls y x st S h
theorem u218_33 (d : Nat) (ls : List Value) (x : Int32) (st : List Value) (S : aS) (h : aH) : ev d 218 33 ls (.int x :: st) S h = br (x.toInt < 0 ∨ 26 < x.toInt) (ev d 218 1047 ls st S h) (match ([156, 199, 242, 305, 328, 391, 404, 417, 450, 503, 556, 579, 612, 635, 678, 701, 724, 767, 800, 853, 876, 899, 922, 955, 988, 1011, 1034] : List Nat)[(x.toInt - 0).toNat]? with
  | some q => ev d 218 q ls st S h
  | none => none) := u_Sw rfl d ls x st S h
theorem u218_156 (d : Nat) (v0 v2 v3 : Value) (x : Nat) (st : List Value) (S : aS) (h : aH) : ev d 218 156 [v0, .ref x, v2, v3] st S h = ev d 218 157 [v0, .ref x, v2, v3] (.ref x :: st) S h := u_LdA rfl rfl d st S h
theorem u218_157 (d : Nat) (v1 v2 v3 : Value) (x : Nat) (st : List Value) (S : aS) (h : aH) : ev d 218 157 [.ref x, v1, v2, v3] st S h = ev d 218 158 [.ref x, v1, v2, v3] (.ref x :: st) S h := u_LdA rfl rfl d st S h
theorem u218_158 (d : Nat) (v0 v1 v2 : Value) (x : Int32) (st : List Value) (S : aS) (h : aH) : ev d 218 158 [v0, v1, v2, .int x] st S h = ev d 218 159 [v0, v1, v2, .int x] (.int x :: st) S h := u_LdI rfl rfl d st S h
theorem u218_159 (d : Nat) (ls st : List Value) (S : aS) (h : aH) : ev d 218 159 ls st S h = ev d 218 160 ls (.int 1 :: st) S h := u_Push rfl d ls st S h
theorem u218_160 (d : Nat) (ls : List Value) (y x : Int32) (st : List Value) (S : aS) (h : aH) : ev d 218 160 ls (.int y :: .int x :: st) S h = ev d 218 161 ls (.int (x + y) :: st) S h := u_II (f := fun x y => x + y) rfl d ls y x st S h
theorem u218_161 (d : Nat) (ls : List Value) (i : Int32) (c : Nat) (st : List Value) (S : aS) (h : aH) : ev d 218 161 ls (.int i :: .ref c :: st) S h = gd (aK S c = 100 ∨ aK S c = 200) (gd (inB i (aL S c)) (ev d 218 162 ls (.int (h.1 c i.toNatClampNeg) :: st) S h)) := u_ALdI rfl d ls i c st S h
theorem u218_162 (d : Nat) (v1 v2 v3 : Value) (x : Nat) (st : List Value) (S : aS) (h : aH) : ev d 218 162 [.ref x, v1, v2, v3] st S h = ev d 218 163 [.ref x, v1, v2, v3] (.ref x :: st) S h := u_LdA rfl rfl d st S h
theorem u218_163 (d : Nat) (v0 v1 v2 : Value) (x : Int32) (st : List Value) (S : aS) (h : aH) : ev d 218 163 [v0, v1, v2, .int x] st S h = ev d 218 164 [v0, v1, v2, .int x] (.int x :: st) S h := u_LdI rfl rfl d st S h
theorem u218_164 (d : Nat) (ls st : List Value) (S : aS) (h : aH) : ev d 218 164 ls st S h = ev d 218 165 ls (.int 2 :: st) S h := u_Push rfl d ls st S h
theorem u218_165 (d : Nat) (ls : List Value) (y x : Int32) (st : List Value) (S : aS) (h : aH) : ev d 218 165 ls (.int y :: .int x :: st) S h = ev d 218 166 ls (.int (x + y) :: st) S h := u_II (f := fun x y => x + y) rfl d ls y x st S h
theorem u218_166 (d : Nat) (ls : List Value) (i : Int32) (c : Nat) (st : List Value) (S : aS) (h : aH) : ev d 218 166 ls (.int i :: .ref c :: st) S h = gd (aK S c = 100 ∨ aK S c = 200) (gd (inB i (aL S c)) (ev d 218 167 ls (.int (h.1 c i.toNatClampNeg) :: st) S h)) := u_ALdI rfl d ls i c st S h
theorem u218_167 (d : Nat) (v1 v2 v3 : Value) (x : Nat) (st : List Value) (S : aS) (h : aH) : ev d 218 167 [.ref x, v1, v2, v3] st S h = ev d 218 168 [.ref x, v1, v2, v3] (.ref x :: st) S h := u_LdA rfl rfl d st S h
theorem u218_168 (d : Nat) (v0 v1 v2 : Value) (x : Int32) (st : List Value) (S : aS) (h : aH) : ev d 218 168 [v0, v1, v2, .int x] st S h = ev d 218 169 [v0, v1, v2, .int x] (.int x :: st) S h := u_LdI rfl rfl d st S h
theorem u218_169 (d : Nat) (ls st : List Value) (S : aS) (h : aH) : ev d 218 169 ls st S h = ev d 218 170 ls (.int 3 :: st) S h := u_Push rfl d ls st S h
theorem u218_170 (d : Nat) (ls : List Value) (y x : Int32) (st : List Value) (S : aS) (h : aH) : ev d 218 170 ls (.int y :: .int x :: st) S h = ev d 218 171 ls (.int (x + y) :: st) S h := u_II (f := fun x y => x + y) rfl d ls y x st S h
theorem u218_171 (d : Nat) (ls : List Value) (i : Int32) (c : Nat) (st : List Value) (S : aS) (h : aH) : ev d 218 171 ls (.int i :: .ref c :: st) S h = gd (aK S c = 100 ∨ aK S c = 200) (gd (inB i (aL S c)) (ev d 218 172 ls (.int (h.1 c i.toNatClampNeg) :: st) S h)) := u_ALdI rfl d ls i c st S h
theorem u218_172 (d : Nat) (ls : List Value) (a0 a1 a2 : Value) (c : Nat) (st : List Value) (S : aS) (h : aH) : ev (d + 1) 218 172 ls (a0 :: a1 :: a2 :: .ref c :: st) S h = gd (aK S c = 10) (gd (cs st ≤ 8) ((call d 82 [.ref c, a2, a1, a0] S h).bind fun r => ev (d + 1) 218 175 ls (r.1.toList ++ st) r.2.1 r.2.2)) := u_CalV1 (as := [a0, a1, a2]) rfl rfl d ls c st S h
theorem u218_175 (d : Nat) (v0 v1 v3 : Value) (x : Nat) (st : List Value) (S : aS) (h : aH) : ev d 218 175 [v0, v1, .ref x, v3] st S h = ev d 218 176 [v0, v1, .ref x, v3] (.ref x :: st) S h := u_LdA rfl rfl d st S h
theorem u218_176 (d : Nat) (v1 v2 v3 : Value) (x : Nat) (st : List Value) (S : aS) (h : aH) : ev d 218 176 [.ref x, v1, v2, v3] st S h = ev d 218 177 [.ref x, v1, v2, v3] (.ref x :: st) S h := u_LdA rfl rfl d st S h
theorem u218_177 (d : Nat) (v0 v1 v2 : Value) (x : Int32) (st : List Value) (S : aS) (h : aH) : ev d 218 177 [v0, v1, v2, .int x] st S h = ev d 218 178 [v0, v1, v2, .int x] (.int x :: st) S h := u_LdI rfl rfl d st S h
theorem u218_178 (d : Nat) (ls st : List Value) (S : aS) (h : aH) : ev d 218 178 ls st S h = ev d 218 179 ls (.int 1 :: st) S h := u_Push rfl d ls st S h
theorem u218_179 (d : Nat) (ls : List Value) (y x : Int32) (st : List Value) (S : aS) (h : aH) : ev d 218 179 ls (.int y :: .int x :: st) S h = ev d 218 180 ls (.int (x + y) :: st) S h := u_II (f := fun x y => x + y) rfl d ls y x st S h
theorem u218_180 (d : Nat) (ls : List Value) (i : Int32) (c : Nat) (st : List Value) (S : aS) (h : aH) : ev d 218 180 ls (.int i :: .ref c :: st) S h = gd (aK S c = 100 ∨ aK S c = 200) (gd (inB i (aL S c)) (ev d 218 181 ls (.int (h.1 c i.toNatClampNeg) :: st) S h)) := u_ALdI rfl d ls i c st S h
theorem u218_181 (d : Nat) (v1 v2 v3 : Value) (x : Nat) (st : List Value) (S : aS) (h : aH) : ev d 218 181 [.ref x, v1, v2, v3] st S h = ev d 218 182 [.ref x, v1, v2, v3] (.ref x :: st) S h := u_LdA rfl rfl d st S h
theorem u218_182 (d : Nat) (v0 v1 v2 : Value) (x : Int32) (st : List Value) (S : aS) (h : aH) : ev d 218 182 [v0, v1, v2, .int x] st S h = ev d 218 183 [v0, v1, v2, .int x] (.int x :: st) S h := u_LdI rfl rfl d st S h
theorem u218_183 (d : Nat) (ls st : List Value) (S : aS) (h : aH) : ev d 218 183 ls st S h = ev d 218 184 ls (.int 2 :: st) S h := u_Push rfl d ls st S h
theorem u218_184 (d : Nat) (ls : List Value) (y x : Int32) (st : List Value) (S : aS) (h : aH) : ev d 218 184 ls (.int y :: .int x :: st) S h = ev d 218 185 ls (.int (x + y) :: st) S h := u_II (f := fun x y => x + y) rfl d ls y x st S h
theorem u218_185 (d : Nat) (ls : List Value) (i : Int32) (c : Nat) (st : List Value) (S : aS) (h : aH) : ev d 218 185 ls (.int i :: .ref c :: st) S h = gd (aK S c = 100 ∨ aK S c = 200) (gd (inB i (aL S c)) (ev d 218 186 ls (.int (h.1 c i.toNatClampNeg) :: st) S h)) := u_ALdI rfl d ls i c st S h
theorem u218_186 (d : Nat) (v1 v2 v3 : Value) (x : Nat) (st : List Value) (S : aS) (h : aH) : ev d 218 186 [.ref x, v1, v2, v3] st S h = ev d 218 187 [.ref x, v1, v2, v3] (.ref x :: st) S h := u_LdA rfl rfl d st S h
theorem u218_187 (d : Nat) (v0 v1 v2 : Value) (x : Int32) (st : List Value) (S : aS) (h : aH) : ev d 218 187 [v0, v1, v2, .int x] st S h = ev d 218 188 [v0, v1, v2, .int x] (.int x :: st) S h := u_LdI rfl rfl d st S h
theorem u218_188 (d : Nat) (ls st : List Value) (S : aS) (h : aH) : ev d 218 188 ls st S h = ev d 218 189 ls (.int 3 :: st) S h := u_Push rfl d ls st S h
theorem u218_189 (d : Nat) (ls : List Value) (y x : Int32) (st : List Value) (S : aS) (h : aH) : ev d 218 189 ls (.int y :: .int x :: st) S h = ev d 218 190 ls (.int (x + y) :: st) S h := u_II (f := fun x y => x + y) rfl d ls y x st S h
theorem u218_190 (d : Nat) (ls : List Value) (i : Int32) (c : Nat) (st : List Value) (S : aS) (h : aH) : ev d 218 190 ls (.int i :: .ref c :: st) S h = gd (aK S c = 100 ∨ aK S c = 200) (gd (inB i (aL S c)) (ev d 218 191 ls (.int (h.1 c i.toNatClampNeg) :: st) S h)) := u_ALdI rfl d ls i c st S h
theorem u218_191 (d : Nat) (ls : List Value) (a0 a1 a2 : Value) (c : Nat) (st : List Value) (S : aS) (h : aH) : ev (d + 1) 218 191 ls (a0 :: a1 :: a2 :: .ref c :: st) S h = gd (aK S c = 11) (gd (cs st ≤ 8) ((call d 134 [.ref c, a2, a1, a0] S h).bind fun r => ev (d + 1) 218 194 ls (r.1.toList ++ st) r.2.1 r.2.2)) := u_CalV1 (as := [a0, a1, a2]) rfl rfl d ls c st S h
theorem u218_194 (d : Nat) (ls : List Value) (y x : Int32) (st : List Value) (S : aS) (h : aH) : ev d 218 194 ls (.int y :: .int x :: st) S h = br (x = y) (ev d 218 1047 ls st S h) (ev d 218 197 ls st S h) := u_Ic (P := fun x y => x = y) rfl d ls y x st S h
theorem u218_197 (d : Nat) (ls st : List Value) (S : aS) (h : aH) : ev d 218 197 ls st S h = ev d 218 198 ls (.int 0 :: st) S h := u_Push rfl d ls st S h
theorem u218_198 (d : Nat) (ls : List Value) (x : Int32) (S : aS) (h : aH) : ev d 218 198 ls [.int x] S h = gd (vp_nar .boolean x = x) (some (some (.int x), S, h)) := u_RetN rfl d ls x S h
theorem u218_199 (d : Nat) (v0 v2 v3 : Value) (x : Nat) (st : List Value) (S : aS) (h : aH) : ev d 218 199 [v0, .ref x, v2, v3] st S h = ev d 218 200 [v0, .ref x, v2, v3] (.ref x :: st) S h := u_LdA rfl rfl d st S h
theorem u218_200 (d : Nat) (v1 v2 v3 : Value) (x : Nat) (st : List Value) (S : aS) (h : aH) : ev d 218 200 [.ref x, v1, v2, v3] st S h = ev d 218 201 [.ref x, v1, v2, v3] (.ref x :: st) S h := u_LdA rfl rfl d st S h
theorem u218_201 (d : Nat) (v0 v1 v2 : Value) (x : Int32) (st : List Value) (S : aS) (h : aH) : ev d 218 201 [v0, v1, v2, .int x] st S h = ev d 218 202 [v0, v1, v2, .int x] (.int x :: st) S h := u_LdI rfl rfl d st S h
theorem u218_202 (d : Nat) (ls st : List Value) (S : aS) (h : aH) : ev d 218 202 ls st S h = ev d 218 203 ls (.int 1 :: st) S h := u_Push rfl d ls st S h
theorem u218_203 (d : Nat) (ls : List Value) (y x : Int32) (st : List Value) (S : aS) (h : aH) : ev d 218 203 ls (.int y :: .int x :: st) S h = ev d 218 204 ls (.int (x + y) :: st) S h := u_II (f := fun x y => x + y) rfl d ls y x st S h
theorem u218_204 (d : Nat) (ls : List Value) (i : Int32) (c : Nat) (st : List Value) (S : aS) (h : aH) : ev d 218 204 ls (.int i :: .ref c :: st) S h = gd (aK S c = 100 ∨ aK S c = 200) (gd (inB i (aL S c)) (ev d 218 205 ls (.int (h.1 c i.toNatClampNeg) :: st) S h)) := u_ALdI rfl d ls i c st S h
theorem u218_205 (d : Nat) (v1 v2 v3 : Value) (x : Nat) (st : List Value) (S : aS) (h : aH) : ev d 218 205 [.ref x, v1, v2, v3] st S h = ev d 218 206 [.ref x, v1, v2, v3] (.ref x :: st) S h := u_LdA rfl rfl d st S h
theorem u218_206 (d : Nat) (v0 v1 v2 : Value) (x : Int32) (st : List Value) (S : aS) (h : aH) : ev d 218 206 [v0, v1, v2, .int x] st S h = ev d 218 207 [v0, v1, v2, .int x] (.int x :: st) S h := u_LdI rfl rfl d st S h
theorem u218_207 (d : Nat) (ls st : List Value) (S : aS) (h : aH) : ev d 218 207 ls st S h = ev d 218 208 ls (.int 2 :: st) S h := u_Push rfl d ls st S h
theorem u218_208 (d : Nat) (ls : List Value) (y x : Int32) (st : List Value) (S : aS) (h : aH) : ev d 218 208 ls (.int y :: .int x :: st) S h = ev d 218 209 ls (.int (x + y) :: st) S h := u_II (f := fun x y => x + y) rfl d ls y x st S h
theorem u218_209 (d : Nat) (ls : List Value) (i : Int32) (c : Nat) (st : List Value) (S : aS) (h : aH) : ev d 218 209 ls (.int i :: .ref c :: st) S h = gd (aK S c = 100 ∨ aK S c = 200) (gd (inB i (aL S c)) (ev d 218 210 ls (.int (h.1 c i.toNatClampNeg) :: st) S h)) := u_ALdI rfl d ls i c st S h
theorem u218_210 (d : Nat) (v1 v2 v3 : Value) (x : Nat) (st : List Value) (S : aS) (h : aH) : ev d 218 210 [.ref x, v1, v2, v3] st S h = ev d 218 211 [.ref x, v1, v2, v3] (.ref x :: st) S h := u_LdA rfl rfl d st S h
theorem u218_211 (d : Nat) (v0 v1 v2 : Value) (x : Int32) (st : List Value) (S : aS) (h : aH) : ev d 218 211 [v0, v1, v2, .int x] st S h = ev d 218 212 [v0, v1, v2, .int x] (.int x :: st) S h := u_LdI rfl rfl d st S h
theorem u218_212 (d : Nat) (ls st : List Value) (S : aS) (h : aH) : ev d 218 212 ls st S h = ev d 218 213 ls (.int 3 :: st) S h := u_Push rfl d ls st S h
theorem u218_213 (d : Nat) (ls : List Value) (y x : Int32) (st : List Value) (S : aS) (h : aH) : ev d 218 213 ls (.int y :: .int x :: st) S h = ev d 218 214 ls (.int (x + y) :: st) S h := u_II (f := fun x y => x + y) rfl d ls y x st S h
theorem u218_214 (d : Nat) (ls : List Value) (i : Int32) (c : Nat) (st : List Value) (S : aS) (h : aH) : ev d 218 214 ls (.int i :: .ref c :: st) S h = gd (aK S c = 100 ∨ aK S c = 200) (gd (inB i (aL S c)) (ev d 218 215 ls (.int (h.1 c i.toNatClampNeg) :: st) S h)) := u_ALdI rfl d ls i c st S h
theorem u218_215 (d : Nat) (ls : List Value) (a0 a1 a2 : Value) (c : Nat) (st : List Value) (S : aS) (h : aH) : ev (d + 1) 218 215 ls (a0 :: a1 :: a2 :: .ref c :: st) S h = gd (aK S c = 10) (gd (cs st ≤ 8) ((call d 83 [.ref c, a2, a1, a0] S h).bind fun r => ev (d + 1) 218 218 ls (r.1.toList ++ st) r.2.1 r.2.2)) := u_CalV1 (as := [a0, a1, a2]) rfl rfl d ls c st S h
theorem u218_218 (d : Nat) (v0 v1 v3 : Value) (x : Nat) (st : List Value) (S : aS) (h : aH) : ev d 218 218 [v0, v1, .ref x, v3] st S h = ev d 218 219 [v0, v1, .ref x, v3] (.ref x :: st) S h := u_LdA rfl rfl d st S h
theorem u218_219 (d : Nat) (v1 v2 v3 : Value) (x : Nat) (st : List Value) (S : aS) (h : aH) : ev d 218 219 [.ref x, v1, v2, v3] st S h = ev d 218 220 [.ref x, v1, v2, v3] (.ref x :: st) S h := u_LdA rfl rfl d st S h
theorem u218_220 (d : Nat) (v0 v1 v2 : Value) (x : Int32) (st : List Value) (S : aS) (h : aH) : ev d 218 220 [v0, v1, v2, .int x] st S h = ev d 218 221 [v0, v1, v2, .int x] (.int x :: st) S h := u_LdI rfl rfl d st S h
theorem u218_221 (d : Nat) (ls st : List Value) (S : aS) (h : aH) : ev d 218 221 ls st S h = ev d 218 222 ls (.int 1 :: st) S h := u_Push rfl d ls st S h
theorem u218_222 (d : Nat) (ls : List Value) (y x : Int32) (st : List Value) (S : aS) (h : aH) : ev d 218 222 ls (.int y :: .int x :: st) S h = ev d 218 223 ls (.int (x + y) :: st) S h := u_II (f := fun x y => x + y) rfl d ls y x st S h
theorem u218_223 (d : Nat) (ls : List Value) (i : Int32) (c : Nat) (st : List Value) (S : aS) (h : aH) : ev d 218 223 ls (.int i :: .ref c :: st) S h = gd (aK S c = 100 ∨ aK S c = 200) (gd (inB i (aL S c)) (ev d 218 224 ls (.int (h.1 c i.toNatClampNeg) :: st) S h)) := u_ALdI rfl d ls i c st S h
theorem u218_224 (d : Nat) (v1 v2 v3 : Value) (x : Nat) (st : List Value) (S : aS) (h : aH) : ev d 218 224 [.ref x, v1, v2, v3] st S h = ev d 218 225 [.ref x, v1, v2, v3] (.ref x :: st) S h := u_LdA rfl rfl d st S h
theorem u218_225 (d : Nat) (v0 v1 v2 : Value) (x : Int32) (st : List Value) (S : aS) (h : aH) : ev d 218 225 [v0, v1, v2, .int x] st S h = ev d 218 226 [v0, v1, v2, .int x] (.int x :: st) S h := u_LdI rfl rfl d st S h
theorem u218_226 (d : Nat) (ls st : List Value) (S : aS) (h : aH) : ev d 218 226 ls st S h = ev d 218 227 ls (.int 2 :: st) S h := u_Push rfl d ls st S h
theorem u218_227 (d : Nat) (ls : List Value) (y x : Int32) (st : List Value) (S : aS) (h : aH) : ev d 218 227 ls (.int y :: .int x :: st) S h = ev d 218 228 ls (.int (x + y) :: st) S h := u_II (f := fun x y => x + y) rfl d ls y x st S h
theorem u218_228 (d : Nat) (ls : List Value) (i : Int32) (c : Nat) (st : List Value) (S : aS) (h : aH) : ev d 218 228 ls (.int i :: .ref c :: st) S h = gd (aK S c = 100 ∨ aK S c = 200) (gd (inB i (aL S c)) (ev d 218 229 ls (.int (h.1 c i.toNatClampNeg) :: st) S h)) := u_ALdI rfl d ls i c st S h
theorem u218_229 (d : Nat) (v1 v2 v3 : Value) (x : Nat) (st : List Value) (S : aS) (h : aH) : ev d 218 229 [.ref x, v1, v2, v3] st S h = ev d 218 230 [.ref x, v1, v2, v3] (.ref x :: st) S h := u_LdA rfl rfl d st S h
theorem u218_230 (d : Nat) (v0 v1 v2 : Value) (x : Int32) (st : List Value) (S : aS) (h : aH) : ev d 218 230 [v0, v1, v2, .int x] st S h = ev d 218 231 [v0, v1, v2, .int x] (.int x :: st) S h := u_LdI rfl rfl d st S h
theorem u218_231 (d : Nat) (ls st : List Value) (S : aS) (h : aH) : ev d 218 231 ls st S h = ev d 218 232 ls (.int 3 :: st) S h := u_Push rfl d ls st S h
theorem u218_232 (d : Nat) (ls : List Value) (y x : Int32) (st : List Value) (S : aS) (h : aH) : ev d 218 232 ls (.int y :: .int x :: st) S h = ev d 218 233 ls (.int (x + y) :: st) S h := u_II (f := fun x y => x + y) rfl d ls y x st S h
theorem u218_233 (d : Nat) (ls : List Value) (i : Int32) (c : Nat) (st : List Value) (S : aS) (h : aH) : ev d 218 233 ls (.int i :: .ref c :: st) S h = gd (aK S c = 100 ∨ aK S c = 200) (gd (inB i (aL S c)) (ev d 218 234 ls (.int (h.1 c i.toNatClampNeg) :: st) S h)) := u_ALdI rfl d ls i c st S h
theorem u218_234 (d : Nat) (ls : List Value) (a0 a1 a2 : Value) (c : Nat) (st : List Value) (S : aS) (h : aH) : ev (d + 1) 218 234 ls (a0 :: a1 :: a2 :: .ref c :: st) S h = gd (aK S c = 11) (gd (cs st ≤ 8) ((call d 135 [.ref c, a2, a1, a0] S h).bind fun r => ev (d + 1) 218 237 ls (r.1.toList ++ st) r.2.1 r.2.2)) := u_CalV1 (as := [a0, a1, a2]) rfl rfl d ls c st S h
theorem u218_237 (d : Nat) (ls : List Value) (y x : Int32) (st : List Value) (S : aS) (h : aH) : ev d 218 237 ls (.int y :: .int x :: st) S h = br (x = y) (ev d 218 1047 ls st S h) (ev d 218 240 ls st S h) := u_Ic (P := fun x y => x = y) rfl d ls y x st S h
theorem u218_240 (d : Nat) (ls st : List Value) (S : aS) (h : aH) : ev d 218 240 ls st S h = ev d 218 241 ls (.int 0 :: st) S h := u_Push rfl d ls st S h
theorem u218_241 (d : Nat) (ls : List Value) (x : Int32) (S : aS) (h : aH) : ev d 218 241 ls [.int x] S h = gd (vp_nar .boolean x = x) (some (some (.int x), S, h)) := u_RetN rfl d ls x S h
theorem u218_242 (d : Nat) (v0 v2 v3 : Value) (x : Nat) (st : List Value) (S : aS) (h : aH) : ev d 218 242 [v0, .ref x, v2, v3] st S h = ev d 218 243 [v0, .ref x, v2, v3] (.ref x :: st) S h := u_LdA rfl rfl d st S h
theorem u218_243 (d : Nat) (v1 v2 v3 : Value) (x : Nat) (st : List Value) (S : aS) (h : aH) : ev d 218 243 [.ref x, v1, v2, v3] st S h = ev d 218 244 [.ref x, v1, v2, v3] (.ref x :: st) S h := u_LdA rfl rfl d st S h
theorem u218_244 (d : Nat) (v0 v1 v2 : Value) (x : Int32) (st : List Value) (S : aS) (h : aH) : ev d 218 244 [v0, v1, v2, .int x] st S h = ev d 218 245 [v0, v1, v2, .int x] (.int x :: st) S h := u_LdI rfl rfl d st S h
theorem u218_245 (d : Nat) (ls st : List Value) (S : aS) (h : aH) : ev d 218 245 ls st S h = ev d 218 246 ls (.int 1 :: st) S h := u_Push rfl d ls st S h
theorem u218_246 (d : Nat) (ls : List Value) (y x : Int32) (st : List Value) (S : aS) (h : aH) : ev d 218 246 ls (.int y :: .int x :: st) S h = ev d 218 247 ls (.int (x + y) :: st) S h := u_II (f := fun x y => x + y) rfl d ls y x st S h
theorem u218_247 (d : Nat) (ls : List Value) (i : Int32) (c : Nat) (st : List Value) (S : aS) (h : aH) : ev d 218 247 ls (.int i :: .ref c :: st) S h = gd (aK S c = 100 ∨ aK S c = 200) (gd (inB i (aL S c)) (ev d 218 248 ls (.int (h.1 c i.toNatClampNeg) :: st) S h)) := u_ALdI rfl d ls i c st S h
theorem u218_248 (d : Nat) (v1 v2 v3 : Value) (x : Nat) (st : List Value) (S : aS) (h : aH) : ev d 218 248 [.ref x, v1, v2, v3] st S h = ev d 218 249 [.ref x, v1, v2, v3] (.ref x :: st) S h := u_LdA rfl rfl d st S h
theorem u218_249 (d : Nat) (v0 v1 v2 : Value) (x : Int32) (st : List Value) (S : aS) (h : aH) : ev d 218 249 [v0, v1, v2, .int x] st S h = ev d 218 250 [v0, v1, v2, .int x] (.int x :: st) S h := u_LdI rfl rfl d st S h
theorem u218_250 (d : Nat) (ls st : List Value) (S : aS) (h : aH) : ev d 218 250 ls st S h = ev d 218 251 ls (.int 2 :: st) S h := u_Push rfl d ls st S h
theorem u218_251 (d : Nat) (ls : List Value) (y x : Int32) (st : List Value) (S : aS) (h : aH) : ev d 218 251 ls (.int y :: .int x :: st) S h = ev d 218 252 ls (.int (x + y) :: st) S h := u_II (f := fun x y => x + y) rfl d ls y x st S h
theorem u218_252 (d : Nat) (ls : List Value) (i : Int32) (c : Nat) (st : List Value) (S : aS) (h : aH) : ev d 218 252 ls (.int i :: .ref c :: st) S h = gd (aK S c = 100 ∨ aK S c = 200) (gd (inB i (aL S c)) (ev d 218 253 ls (.int (h.1 c i.toNatClampNeg) :: st) S h)) := u_ALdI rfl d ls i c st S h
theorem u218_253 (d : Nat) (v1 v2 v3 : Value) (x : Nat) (st : List Value) (S : aS) (h : aH) : ev d 218 253 [.ref x, v1, v2, v3] st S h = ev d 218 254 [.ref x, v1, v2, v3] (.ref x :: st) S h := u_LdA rfl rfl d st S h
theorem u218_254 (d : Nat) (v0 v1 v2 : Value) (x : Int32) (st : List Value) (S : aS) (h : aH) : ev d 218 254 [v0, v1, v2, .int x] st S h = ev d 218 255 [v0, v1, v2, .int x] (.int x :: st) S h := u_LdI rfl rfl d st S h
theorem u218_255 (d : Nat) (ls st : List Value) (S : aS) (h : aH) : ev d 218 255 ls st S h = ev d 218 256 ls (.int 3 :: st) S h := u_Push rfl d ls st S h
theorem u218_256 (d : Nat) (ls : List Value) (y x : Int32) (st : List Value) (S : aS) (h : aH) : ev d 218 256 ls (.int y :: .int x :: st) S h = ev d 218 257 ls (.int (x + y) :: st) S h := u_II (f := fun x y => x + y) rfl d ls y x st S h
theorem u218_257 (d : Nat) (ls : List Value) (i : Int32) (c : Nat) (st : List Value) (S : aS) (h : aH) : ev d 218 257 ls (.int i :: .ref c :: st) S h = gd (aK S c = 100 ∨ aK S c = 200) (gd (inB i (aL S c)) (ev d 218 258 ls (.int (h.1 c i.toNatClampNeg) :: st) S h)) := u_ALdI rfl d ls i c st S h
theorem u218_258 (d : Nat) (v1 v2 v3 : Value) (x : Nat) (st : List Value) (S : aS) (h : aH) : ev d 218 258 [.ref x, v1, v2, v3] st S h = ev d 218 259 [.ref x, v1, v2, v3] (.ref x :: st) S h := u_LdA rfl rfl d st S h
theorem u218_259 (d : Nat) (v0 v1 v2 : Value) (x : Int32) (st : List Value) (S : aS) (h : aH) : ev d 218 259 [v0, v1, v2, .int x] st S h = ev d 218 260 [v0, v1, v2, .int x] (.int x :: st) S h := u_LdI rfl rfl d st S h
theorem u218_260 (d : Nat) (ls st : List Value) (S : aS) (h : aH) : ev d 218 260 ls st S h = ev d 218 261 ls (.int 4 :: st) S h := u_Push rfl d ls st S h
theorem u218_261 (d : Nat) (ls : List Value) (y x : Int32) (st : List Value) (S : aS) (h : aH) : ev d 218 261 ls (.int y :: .int x :: st) S h = ev d 218 262 ls (.int (x + y) :: st) S h := u_II (f := fun x y => x + y) rfl d ls y x st S h
theorem u218_262 (d : Nat) (ls : List Value) (i : Int32) (c : Nat) (st : List Value) (S : aS) (h : aH) : ev d 218 262 ls (.int i :: .ref c :: st) S h = gd (aK S c = 100 ∨ aK S c = 200) (gd (inB i (aL S c)) (ev d 218 263 ls (.int (h.1 c i.toNatClampNeg) :: st) S h)) := u_ALdI rfl d ls i c st S h
theorem u218_263 (d : Nat) (v1 v2 v3 : Value) (x : Nat) (st : List Value) (S : aS) (h : aH) : ev d 218 263 [.ref x, v1, v2, v3] st S h = ev d 218 264 [.ref x, v1, v2, v3] (.ref x :: st) S h := u_LdA rfl rfl d st S h
theorem u218_264 (d : Nat) (v0 v1 v2 : Value) (x : Int32) (st : List Value) (S : aS) (h : aH) : ev d 218 264 [v0, v1, v2, .int x] st S h = ev d 218 265 [v0, v1, v2, .int x] (.int x :: st) S h := u_LdI rfl rfl d st S h
theorem u218_265 (d : Nat) (ls st : List Value) (S : aS) (h : aH) : ev d 218 265 ls st S h = ev d 218 266 ls (.int 5 :: st) S h := u_Push rfl d ls st S h
theorem u218_266 (d : Nat) (ls : List Value) (y x : Int32) (st : List Value) (S : aS) (h : aH) : ev d 218 266 ls (.int y :: .int x :: st) S h = ev d 218 267 ls (.int (x + y) :: st) S h := u_II (f := fun x y => x + y) rfl d ls y x st S h
theorem u218_267 (d : Nat) (ls : List Value) (i : Int32) (c : Nat) (st : List Value) (S : aS) (h : aH) : ev d 218 267 ls (.int i :: .ref c :: st) S h = gd (aK S c = 100 ∨ aK S c = 200) (gd (inB i (aL S c)) (ev d 218 268 ls (.int (h.1 c i.toNatClampNeg) :: st) S h)) := u_ALdI rfl d ls i c st S h
theorem u218_268 (d : Nat) (ls : List Value) (a0 a1 a2 a3 a4 : Value) (c : Nat) (st : List Value) (S : aS) (h : aH) : ev (d + 1) 218 268 ls (a0 :: a1 :: a2 :: a3 :: a4 :: .ref c :: st) S h = gd (aK S c = 10) (gd (cs st ≤ 8) ((call d 84 [.ref c, a4, a3, a2, a1, a0] S h).bind fun r => ev (d + 1) 218 271 ls (r.1.toList ++ st) r.2.1 r.2.2)) := u_CalV1 (as := [a0, a1, a2, a3, a4]) rfl rfl d ls c st S h
theorem u218_271 (d : Nat) (v0 v1 v3 : Value) (x : Nat) (st : List Value) (S : aS) (h : aH) : ev d 218 271 [v0, v1, .ref x, v3] st S h = ev d 218 272 [v0, v1, .ref x, v3] (.ref x :: st) S h := u_LdA rfl rfl d st S h
theorem u218_272 (d : Nat) (v1 v2 v3 : Value) (x : Nat) (st : List Value) (S : aS) (h : aH) : ev d 218 272 [.ref x, v1, v2, v3] st S h = ev d 218 273 [.ref x, v1, v2, v3] (.ref x :: st) S h := u_LdA rfl rfl d st S h
theorem u218_273 (d : Nat) (v0 v1 v2 : Value) (x : Int32) (st : List Value) (S : aS) (h : aH) : ev d 218 273 [v0, v1, v2, .int x] st S h = ev d 218 274 [v0, v1, v2, .int x] (.int x :: st) S h := u_LdI rfl rfl d st S h
theorem u218_274 (d : Nat) (ls st : List Value) (S : aS) (h : aH) : ev d 218 274 ls st S h = ev d 218 275 ls (.int 1 :: st) S h := u_Push rfl d ls st S h
theorem u218_275 (d : Nat) (ls : List Value) (y x : Int32) (st : List Value) (S : aS) (h : aH) : ev d 218 275 ls (.int y :: .int x :: st) S h = ev d 218 276 ls (.int (x + y) :: st) S h := u_II (f := fun x y => x + y) rfl d ls y x st S h
theorem u218_276 (d : Nat) (ls : List Value) (i : Int32) (c : Nat) (st : List Value) (S : aS) (h : aH) : ev d 218 276 ls (.int i :: .ref c :: st) S h = gd (aK S c = 100 ∨ aK S c = 200) (gd (inB i (aL S c)) (ev d 218 277 ls (.int (h.1 c i.toNatClampNeg) :: st) S h)) := u_ALdI rfl d ls i c st S h
set_option maxRecDepth 50000 in
theorem u218_277 (d : Nat) (v1 v2 v3 : Value) (x : Nat) (st : List Value) (S : aS) (h : aH) : ev d 218 277 [.ref x, v1, v2, v3] st S h = ev d 218 278 [.ref x, v1, v2, v3] (.ref x :: st) S h := u_LdA rfl rfl d st S h
set_option maxRecDepth 50000 in
theorem u218_278 (d : Nat) (v0 v1 v2 : Value) (x : Int32) (st : List Value) (S : aS) (h : aH) : ev d 218 278 [v0, v1, v2, .int x] st S h = ev d 218 279 [v0, v1, v2, .int x] (.int x :: st) S h := u_LdI rfl rfl d st S h
set_option maxRecDepth 50000 in
theorem u218_279 (d : Nat) (ls st : List Value) (S : aS) (h : aH) : ev d 218 279 ls st S h = ev d 218 280 ls (.int 2 :: st) S h := u_Push rfl d ls st S h
set_option maxRecDepth 50000 in
theorem u218_280 (d : Nat) (ls : List Value) (y x : Int32) (st : List Value) (S : aS) (h : aH) : ev d 218 280 ls (.int y :: .int x :: st) S h = ev d 218 281 ls (.int (x + y) :: st) S h := u_II (f := fun x y => x + y) rfl d ls y x st S h
set_option maxRecDepth 50000 in
theorem u218_281 (d : Nat) (ls : List Value) (i : Int32) (c : Nat) (st : List Value) (S : aS) (h : aH) : ev d 218 281 ls (.int i :: .ref c :: st) S h = gd (aK S c = 100 ∨ aK S c = 200) (gd (inB i (aL S c)) (ev d 218 282 ls (.int (h.1 c i.toNatClampNeg) :: st) S h)) := u_ALdI rfl d ls i c st S h
set_option maxRecDepth 50000 in
theorem u218_282 (d : Nat) (v1 v2 v3 : Value) (x : Nat) (st : List Value) (S : aS) (h : aH) : ev d 218 282 [.ref x, v1, v2, v3] st S h = ev d 218 283 [.ref x, v1, v2, v3] (.ref x :: st) S h := u_LdA rfl rfl d st S h
set_option maxRecDepth 50000 in
theorem u218_283 (d : Nat) (v0 v1 v2 : Value) (x : Int32) (st : List Value) (S : aS) (h : aH) : ev d 218 283 [v0, v1, v2, .int x] st S h = ev d 218 284 [v0, v1, v2, .int x] (.int x :: st) S h := u_LdI rfl rfl d st S h
set_option maxRecDepth 50000 in
theorem u218_284 (d : Nat) (ls st : List Value) (S : aS) (h : aH) : ev d 218 284 ls st S h = ev d 218 285 ls (.int 3 :: st) S h := u_Push rfl d ls st S h
set_option maxRecDepth 50000 in
theorem u218_285 (d : Nat) (ls : List Value) (y x : Int32) (st : List Value) (S : aS) (h : aH) : ev d 218 285 ls (.int y :: .int x :: st) S h = ev d 218 286 ls (.int (x + y) :: st) S h := u_II (f := fun x y => x + y) rfl d ls y x st S h
set_option maxRecDepth 50000 in
theorem u218_286 (d : Nat) (ls : List Value) (i : Int32) (c : Nat) (st : List Value) (S : aS) (h : aH) : ev d 218 286 ls (.int i :: .ref c :: st) S h = gd (aK S c = 100 ∨ aK S c = 200) (gd (inB i (aL S c)) (ev d 218 287 ls (.int (h.1 c i.toNatClampNeg) :: st) S h)) := u_ALdI rfl d ls i c st S h
set_option maxRecDepth 50000 in
theorem u218_287 (d : Nat) (v1 v2 v3 : Value) (x : Nat) (st : List Value) (S : aS) (h : aH) : ev d 218 287 [.ref x, v1, v2, v3] st S h = ev d 218 288 [.ref x, v1, v2, v3] (.ref x :: st) S h := u_LdA rfl rfl d st S h
set_option maxRecDepth 50000 in
theorem u218_288 (d : Nat) (v0 v1 v2 : Value) (x : Int32) (st : List Value) (S : aS) (h : aH) : ev d 218 288 [v0, v1, v2, .int x] st S h = ev d 218 289 [v0, v1, v2, .int x] (.int x :: st) S h := u_LdI rfl rfl d st S h
set_option maxRecDepth 50000 in
theorem u218_289 (d : Nat) (ls st : List Value) (S : aS) (h : aH) : ev d 218 289 ls st S h = ev d 218 290 ls (.int 4 :: st) S h := u_Push rfl d ls st S h
set_option maxRecDepth 50000 in
theorem u218_290 (d : Nat) (ls : List Value) (y x : Int32) (st : List Value) (S : aS) (h : aH) : ev d 218 290 ls (.int y :: .int x :: st) S h = ev d 218 291 ls (.int (x + y) :: st) S h := u_II (f := fun x y => x + y) rfl d ls y x st S h
set_option maxRecDepth 50000 in
theorem u218_291 (d : Nat) (ls : List Value) (i : Int32) (c : Nat) (st : List Value) (S : aS) (h : aH) : ev d 218 291 ls (.int i :: .ref c :: st) S h = gd (aK S c = 100 ∨ aK S c = 200) (gd (inB i (aL S c)) (ev d 218 292 ls (.int (h.1 c i.toNatClampNeg) :: st) S h)) := u_ALdI rfl d ls i c st S h
set_option maxRecDepth 50000 in
theorem u218_292 (d : Nat) (v1 v2 v3 : Value) (x : Nat) (st : List Value) (S : aS) (h : aH) : ev d 218 292 [.ref x, v1, v2, v3] st S h = ev d 218 293 [.ref x, v1, v2, v3] (.ref x :: st) S h := u_LdA rfl rfl d st S h
set_option maxRecDepth 50000 in
theorem u218_293 (d : Nat) (v0 v1 v2 : Value) (x : Int32) (st : List Value) (S : aS) (h : aH) : ev d 218 293 [v0, v1, v2, .int x] st S h = ev d 218 294 [v0, v1, v2, .int x] (.int x :: st) S h := u_LdI rfl rfl d st S h
set_option maxRecDepth 50000 in
theorem u218_294 (d : Nat) (ls st : List Value) (S : aS) (h : aH) : ev d 218 294 ls st S h = ev d 218 295 ls (.int 5 :: st) S h := u_Push rfl d ls st S h
set_option maxRecDepth 50000 in
theorem u218_295 (d : Nat) (ls : List Value) (y x : Int32) (st : List Value) (S : aS) (h : aH) : ev d 218 295 ls (.int y :: .int x :: st) S h = ev d 218 296 ls (.int (x + y) :: st) S h := u_II (f := fun x y => x + y) rfl d ls y x st S h
set_option maxRecDepth 50000 in
theorem u218_296 (d : Nat) (ls : List Value) (i : Int32) (c : Nat) (st : List Value) (S : aS) (h : aH) : ev d 218 296 ls (.int i :: .ref c :: st) S h = gd (aK S c = 100 ∨ aK S c = 200) (gd (inB i (aL S c)) (ev d 218 297 ls (.int (h.1 c i.toNatClampNeg) :: st) S h)) := u_ALdI rfl d ls i c st S h
set_option maxRecDepth 50000 in
theorem u218_297 (d : Nat) (ls : List Value) (a0 a1 a2 a3 a4 : Value) (c : Nat) (st : List Value) (S : aS) (h : aH) : ev (d + 1) 218 297 ls (a0 :: a1 :: a2 :: a3 :: a4 :: .ref c :: st) S h = gd (aK S c = 11) (gd (cs st ≤ 8) ((call d 136 [.ref c, a4, a3, a2, a1, a0] S h).bind fun r => ev (d + 1) 218 300 ls (r.1.toList ++ st) r.2.1 r.2.2)) := u_CalV1 (as := [a0, a1, a2, a3, a4]) rfl rfl d ls c st S h
set_option maxRecDepth 50000 in
theorem u218_300 (d : Nat) (ls : List Value) (y x : Int32) (st : List Value) (S : aS) (h : aH) : ev d 218 300 ls (.int y :: .int x :: st) S h = br (x = y) (ev d 218 1047 ls st S h) (ev d 218 303 ls st S h) := u_Ic (P := fun x y => x = y) rfl d ls y x st S h
set_option maxRecDepth 50000 in
theorem u218_303 (d : Nat) (ls st : List Value) (S : aS) (h : aH) : ev d 218 303 ls st S h = ev d 218 304 ls (.int 0 :: st) S h := u_Push rfl d ls st S h
set_option maxRecDepth 50000 in
theorem u218_304 (d : Nat) (ls : List Value) (x : Int32) (S : aS) (h : aH) : ev d 218 304 ls [.int x] S h = gd (vp_nar .boolean x = x) (some (some (.int x), S, h)) := u_RetN rfl d ls x S h
set_option maxRecDepth 50000 in
theorem u218_305 (d : Nat) (v0 v2 v3 : Value) (x : Nat) (st : List Value) (S : aS) (h : aH) : ev d 218 305 [v0, .ref x, v2, v3] st S h = ev d 218 306 [v0, .ref x, v2, v3] (.ref x :: st) S h := u_LdA rfl rfl d st S h
set_option maxRecDepth 50000 in
theorem u218_306 (d : Nat) (v1 v2 v3 : Value) (x : Nat) (st : List Value) (S : aS) (h : aH) : ev d 218 306 [.ref x, v1, v2, v3] st S h = ev d 218 307 [.ref x, v1, v2, v3] (.ref x :: st) S h := u_LdA rfl rfl d st S h
set_option maxRecDepth 50000 in
theorem u218_307 (d : Nat) (v0 v1 v2 : Value) (x : Int32) (st : List Value) (S : aS) (h : aH) : ev d 218 307 [v0, v1, v2, .int x] st S h = ev d 218 308 [v0, v1, v2, .int x] (.int x :: st) S h := u_LdI rfl rfl d st S h
set_option maxRecDepth 50000 in
theorem u218_308 (d : Nat) (ls st : List Value) (S : aS) (h : aH) : ev d 218 308 ls st S h = ev d 218 309 ls (.int 1 :: st) S h := u_Push rfl d ls st S h
set_option maxRecDepth 50000 in
theorem u218_309 (d : Nat) (ls : List Value) (y x : Int32) (st : List Value) (S : aS) (h : aH) : ev d 218 309 ls (.int y :: .int x :: st) S h = ev d 218 310 ls (.int (x + y) :: st) S h := u_II (f := fun x y => x + y) rfl d ls y x st S h
set_option maxRecDepth 50000 in
theorem u218_310 (d : Nat) (ls : List Value) (i : Int32) (c : Nat) (st : List Value) (S : aS) (h : aH) : ev d 218 310 ls (.int i :: .ref c :: st) S h = gd (aK S c = 100 ∨ aK S c = 200) (gd (inB i (aL S c)) (ev d 218 311 ls (.int (h.1 c i.toNatClampNeg) :: st) S h)) := u_ALdI rfl d ls i c st S h
set_option maxRecDepth 50000 in
theorem u218_311 (d : Nat) (ls : List Value) (a0 : Value) (c : Nat) (st : List Value) (S : aS) (h : aH) : ev (d + 1) 218 311 ls (a0 :: .ref c :: st) S h = gd (aK S c = 10) (gd (cs st ≤ 8) ((call d 85 [.ref c, a0] S h).bind fun r => ev (d + 1) 218 314 ls (r.1.toList ++ st) r.2.1 r.2.2)) := u_CalV1 (as := [a0]) rfl rfl d ls c st S h
set_option maxRecDepth 50000 in
theorem u218_314 (d : Nat) (v0 v1 v3 : Value) (x : Nat) (st : List Value) (S : aS) (h : aH) : ev d 218 314 [v0, v1, .ref x, v3] st S h = ev d 218 315 [v0, v1, .ref x, v3] (.ref x :: st) S h := u_LdA rfl rfl d st S h
set_option maxRecDepth 50000 in
theorem u218_315 (d : Nat) (v1 v2 v3 : Value) (x : Nat) (st : List Value) (S : aS) (h : aH) : ev d 218 315 [.ref x, v1, v2, v3] st S h = ev d 218 316 [.ref x, v1, v2, v3] (.ref x :: st) S h := u_LdA rfl rfl d st S h
set_option maxRecDepth 50000 in
theorem u218_316 (d : Nat) (v0 v1 v2 : Value) (x : Int32) (st : List Value) (S : aS) (h : aH) : ev d 218 316 [v0, v1, v2, .int x] st S h = ev d 218 317 [v0, v1, v2, .int x] (.int x :: st) S h := u_LdI rfl rfl d st S h
set_option maxRecDepth 50000 in
theorem u218_317 (d : Nat) (ls st : List Value) (S : aS) (h : aH) : ev d 218 317 ls st S h = ev d 218 318 ls (.int 1 :: st) S h := u_Push rfl d ls st S h
set_option maxRecDepth 50000 in
theorem u218_318 (d : Nat) (ls : List Value) (y x : Int32) (st : List Value) (S : aS) (h : aH) : ev d 218 318 ls (.int y :: .int x :: st) S h = ev d 218 319 ls (.int (x + y) :: st) S h := u_II (f := fun x y => x + y) rfl d ls y x st S h
set_option maxRecDepth 50000 in
theorem u218_319 (d : Nat) (ls : List Value) (i : Int32) (c : Nat) (st : List Value) (S : aS) (h : aH) : ev d 218 319 ls (.int i :: .ref c :: st) S h = gd (aK S c = 100 ∨ aK S c = 200) (gd (inB i (aL S c)) (ev d 218 320 ls (.int (h.1 c i.toNatClampNeg) :: st) S h)) := u_ALdI rfl d ls i c st S h
set_option maxRecDepth 50000 in
theorem u218_320 (d : Nat) (ls : List Value) (a0 : Value) (c : Nat) (st : List Value) (S : aS) (h : aH) : ev (d + 1) 218 320 ls (a0 :: .ref c :: st) S h = gd (aK S c = 11) (gd (cs st ≤ 8) ((call d 137 [.ref c, a0] S h).bind fun r => ev (d + 1) 218 323 ls (r.1.toList ++ st) r.2.1 r.2.2)) := u_CalV1 (as := [a0]) rfl rfl d ls c st S h
set_option maxRecDepth 50000 in
theorem u218_323 (d : Nat) (ls : List Value) (y x : Int32) (st : List Value) (S : aS) (h : aH) : ev d 218 323 ls (.int y :: .int x :: st) S h = br (x = y) (ev d 218 1047 ls st S h) (ev d 218 326 ls st S h) := u_Ic (P := fun x y => x = y) rfl d ls y x st S h
set_option maxRecDepth 50000 in
theorem u218_326 (d : Nat) (ls st : List Value) (S : aS) (h : aH) : ev d 218 326 ls st S h = ev d 218 327 ls (.int 0 :: st) S h := u_Push rfl d ls st S h
set_option maxRecDepth 50000 in
theorem u218_327 (d : Nat) (ls : List Value) (x : Int32) (S : aS) (h : aH) : ev d 218 327 ls [.int x] S h = gd (vp_nar .boolean x = x) (some (some (.int x), S, h)) := u_RetN rfl d ls x S h
set_option maxRecDepth 50000 in
theorem u218_328 (d : Nat) (v0 v2 v3 : Value) (x : Nat) (st : List Value) (S : aS) (h : aH) : ev d 218 328 [v0, .ref x, v2, v3] st S h = ev d 218 329 [v0, .ref x, v2, v3] (.ref x :: st) S h := u_LdA rfl rfl d st S h
set_option maxRecDepth 50000 in
theorem u218_329 (d : Nat) (v1 v2 v3 : Value) (x : Nat) (st : List Value) (S : aS) (h : aH) : ev d 218 329 [.ref x, v1, v2, v3] st S h = ev d 218 330 [.ref x, v1, v2, v3] (.ref x :: st) S h := u_LdA rfl rfl d st S h
set_option maxRecDepth 50000 in
theorem u218_330 (d : Nat) (v0 v1 v2 : Value) (x : Int32) (st : List Value) (S : aS) (h : aH) : ev d 218 330 [v0, v1, v2, .int x] st S h = ev d 218 331 [v0, v1, v2, .int x] (.int x :: st) S h := u_LdI rfl rfl d st S h
set_option maxRecDepth 50000 in
theorem u218_331 (d : Nat) (ls st : List Value) (S : aS) (h : aH) : ev d 218 331 ls st S h = ev d 218 332 ls (.int 1 :: st) S h := u_Push rfl d ls st S h
set_option maxRecDepth 50000 in
theorem u218_332 (d : Nat) (ls : List Value) (y x : Int32) (st : List Value) (S : aS) (h : aH) : ev d 218 332 ls (.int y :: .int x :: st) S h = ev d 218 333 ls (.int (x + y) :: st) S h := u_II (f := fun x y => x + y) rfl d ls y x st S h
set_option maxRecDepth 50000 in
theorem u218_333 (d : Nat) (ls : List Value) (i : Int32) (c : Nat) (st : List Value) (S : aS) (h : aH) : ev d 218 333 ls (.int i :: .ref c :: st) S h = gd (aK S c = 100 ∨ aK S c = 200) (gd (inB i (aL S c)) (ev d 218 334 ls (.int (h.1 c i.toNatClampNeg) :: st) S h)) := u_ALdI rfl d ls i c st S h
set_option maxRecDepth 50000 in
theorem u218_334 (d : Nat) (ls : List Value) (x : Int32) (st : List Value) (S : aS) (h : aH) : ev d 218 334 ls (.int x :: st) S h = ev d 218 335 ls (.long (x.toInt64) :: st) S h := u_IL (f := fun x => x.toInt64) rfl d ls x st S h
set_option maxRecDepth 50000 in
theorem u218_335 (d : Nat) (ls st : List Value) (S : aS) (h : aH) : ev d 218 335 ls st S h = ev d 218 337 ls (.int 32 :: st) S h := u_Push rfl d ls st S h
set_option maxRecDepth 50000 in
theorem u218_337 (d : Nat) (ls : List Value) (y : Int32) (x : Int64) (st : List Value) (S : aS) (h : aH) : ev d 218 337 ls (.int y :: .long x :: st) S h = ev d 218 338 ls (.long (x <<< (y.toInt64 &&& 63)) :: st) S h := u_LSh (f := fun x y => x <<< (y.toInt64 &&& 63)) rfl d ls y x st S h
set_option maxRecDepth 50000 in
theorem u218_338 (d : Nat) (v1 v2 v3 : Value) (x : Nat) (st : List Value) (S : aS) (h : aH) : ev d 218 338 [.ref x, v1, v2, v3] st S h = ev d 218 339 [.ref x, v1, v2, v3] (.ref x :: st) S h := u_LdA rfl rfl d st S h
set_option maxRecDepth 50000 in
theorem u218_339 (d : Nat) (v0 v1 v2 : Value) (x : Int32) (st : List Value) (S : aS) (h : aH) : ev d 218 339 [v0, v1, v2, .int x] st S h = ev d 218 340 [v0, v1, v2, .int x] (.int x :: st) S h := u_LdI rfl rfl d st S h
set_option maxRecDepth 50000 in
theorem u218_340 (d : Nat) (ls st : List Value) (S : aS) (h : aH) : ev d 218 340 ls st S h = ev d 218 341 ls (.int 2 :: st) S h := u_Push rfl d ls st S h
set_option maxRecDepth 50000 in
theorem u218_341 (d : Nat) (ls : List Value) (y x : Int32) (st : List Value) (S : aS) (h : aH) : ev d 218 341 ls (.int y :: .int x :: st) S h = ev d 218 342 ls (.int (x + y) :: st) S h := u_II (f := fun x y => x + y) rfl d ls y x st S h
set_option maxRecDepth 50000 in
theorem u218_342 (d : Nat) (ls : List Value) (i : Int32) (c : Nat) (st : List Value) (S : aS) (h : aH) : ev d 218 342 ls (.int i :: .ref c :: st) S h = gd (aK S c = 100 ∨ aK S c = 200) (gd (inB i (aL S c)) (ev d 218 343 ls (.int (h.1 c i.toNatClampNeg) :: st) S h)) := u_ALdI rfl d ls i c st S h
set_option maxRecDepth 50000 in
theorem u218_343 (d : Nat) (ls : List Value) (x : Int32) (st : List Value) (S : aS) (h : aH) : ev d 218 343 ls (.int x :: st) S h = ev d 218 344 ls (.long (x.toInt64) :: st) S h := u_IL (f := fun x => x.toInt64) rfl d ls x st S h
set_option maxRecDepth 50000 in
theorem u218_344 (d : Nat) (ls st : List Value) (S : aS) (h : aH) : ev d 218 344 ls st S h = ev d 218 347 ls (.long 4294967295 :: st) S h := u_Push rfl d ls st S h
set_option maxRecDepth 50000 in
theorem u218_347 (d : Nat) (ls : List Value) (y x : Int64) (st : List Value) (S : aS) (h : aH) : ev d 218 347 ls (.long y :: .long x :: st) S h = ev d 218 348 ls (.long (x &&& y) :: st) S h := u_LL (f := fun x y => x &&& y) rfl d ls y x st S h
set_option maxRecDepth 50000 in
theorem u218_348 (d : Nat) (ls : List Value) (y x : Int64) (st : List Value) (S : aS) (h : aH) : ev d 218 348 ls (.long y :: .long x :: st) S h = ev d 218 349 ls (.long (x ||| y) :: st) S h := u_LL (f := fun x y => x ||| y) rfl d ls y x st S h
set_option maxRecDepth 50000 in
theorem u218_349 (d : Nat) (v1 v2 v3 : Value) (x : Nat) (st : List Value) (S : aS) (h : aH) : ev d 218 349 [.ref x, v1, v2, v3] st S h = ev d 218 350 [.ref x, v1, v2, v3] (.ref x :: st) S h := u_LdA rfl rfl d st S h
set_option maxRecDepth 50000 in
theorem u218_350 (d : Nat) (v0 v1 v2 : Value) (x : Int32) (st : List Value) (S : aS) (h : aH) : ev d 218 350 [v0, v1, v2, .int x] st S h = ev d 218 351 [v0, v1, v2, .int x] (.int x :: st) S h := u_LdI rfl rfl d st S h
set_option maxRecDepth 50000 in
theorem u218_351 (d : Nat) (ls st : List Value) (S : aS) (h : aH) : ev d 218 351 ls st S h = ev d 218 352 ls (.int 3 :: st) S h := u_Push rfl d ls st S h
set_option maxRecDepth 50000 in
theorem u218_352 (d : Nat) (ls : List Value) (y x : Int32) (st : List Value) (S : aS) (h : aH) : ev d 218 352 ls (.int y :: .int x :: st) S h = ev d 218 353 ls (.int (x + y) :: st) S h := u_II (f := fun x y => x + y) rfl d ls y x st S h
set_option maxRecDepth 50000 in
theorem u218_353 (d : Nat) (ls : List Value) (i : Int32) (c : Nat) (st : List Value) (S : aS) (h : aH) : ev d 218 353 ls (.int i :: .ref c :: st) S h = gd (aK S c = 100 ∨ aK S c = 200) (gd (inB i (aL S c)) (ev d 218 354 ls (.int (h.1 c i.toNatClampNeg) :: st) S h)) := u_ALdI rfl d ls i c st S h
set_option maxRecDepth 50000 in
theorem u218_354 (d : Nat) (ls : List Value) (a0 a1 : Value) (c : Nat) (st : List Value) (S : aS) (h : aH) : ev (d + 1) 218 354 ls (a0 :: a1 :: .ref c :: st) S h = gd (aK S c = 10) (gd (cs st ≤ 8) ((call d 86 [.ref c, a1, a0] S h).bind fun r => ev (d + 1) 218 357 ls (r.1.toList ++ st) r.2.1 r.2.2)) := u_CalV1 (as := [a0, a1]) rfl rfl d ls c st S h
set_option maxRecDepth 50000 in
theorem u218_357 (d : Nat) (v0 v1 v3 : Value) (x : Nat) (st : List Value) (S : aS) (h : aH) : ev d 218 357 [v0, v1, .ref x, v3] st S h = ev d 218 358 [v0, v1, .ref x, v3] (.ref x :: st) S h := u_LdA rfl rfl d st S h
set_option maxRecDepth 50000 in
theorem u218_358 (d : Nat) (v1 v2 v3 : Value) (x : Nat) (st : List Value) (S : aS) (h : aH) : ev d 218 358 [.ref x, v1, v2, v3] st S h = ev d 218 359 [.ref x, v1, v2, v3] (.ref x :: st) S h := u_LdA rfl rfl d st S h
set_option maxRecDepth 50000 in
theorem u218_359 (d : Nat) (v0 v1 v2 : Value) (x : Int32) (st : List Value) (S : aS) (h : aH) : ev d 218 359 [v0, v1, v2, .int x] st S h = ev d 218 360 [v0, v1, v2, .int x] (.int x :: st) S h := u_LdI rfl rfl d st S h
set_option maxRecDepth 50000 in
theorem u218_360 (d : Nat) (ls st : List Value) (S : aS) (h : aH) : ev d 218 360 ls st S h = ev d 218 361 ls (.int 1 :: st) S h := u_Push rfl d ls st S h
set_option maxRecDepth 50000 in
theorem u218_361 (d : Nat) (ls : List Value) (y x : Int32) (st : List Value) (S : aS) (h : aH) : ev d 218 361 ls (.int y :: .int x :: st) S h = ev d 218 362 ls (.int (x + y) :: st) S h := u_II (f := fun x y => x + y) rfl d ls y x st S h
set_option maxRecDepth 50000 in
theorem u218_362 (d : Nat) (ls : List Value) (i : Int32) (c : Nat) (st : List Value) (S : aS) (h : aH) : ev d 218 362 ls (.int i :: .ref c :: st) S h = gd (aK S c = 100 ∨ aK S c = 200) (gd (inB i (aL S c)) (ev d 218 363 ls (.int (h.1 c i.toNatClampNeg) :: st) S h)) := u_ALdI rfl d ls i c st S h
set_option maxRecDepth 50000 in
theorem u218_363 (d : Nat) (ls : List Value) (x : Int32) (st : List Value) (S : aS) (h : aH) : ev d 218 363 ls (.int x :: st) S h = ev d 218 364 ls (.long (x.toInt64) :: st) S h := u_IL (f := fun x => x.toInt64) rfl d ls x st S h
set_option maxRecDepth 50000 in
theorem u218_364 (d : Nat) (ls st : List Value) (S : aS) (h : aH) : ev d 218 364 ls st S h = ev d 218 366 ls (.int 32 :: st) S h := u_Push rfl d ls st S h
set_option maxRecDepth 50000 in
theorem u218_366 (d : Nat) (ls : List Value) (y : Int32) (x : Int64) (st : List Value) (S : aS) (h : aH) : ev d 218 366 ls (.int y :: .long x :: st) S h = ev d 218 367 ls (.long (x <<< (y.toInt64 &&& 63)) :: st) S h := u_LSh (f := fun x y => x <<< (y.toInt64 &&& 63)) rfl d ls y x st S h
set_option maxRecDepth 50000 in
theorem u218_367 (d : Nat) (v1 v2 v3 : Value) (x : Nat) (st : List Value) (S : aS) (h : aH) : ev d 218 367 [.ref x, v1, v2, v3] st S h = ev d 218 368 [.ref x, v1, v2, v3] (.ref x :: st) S h := u_LdA rfl rfl d st S h
set_option maxRecDepth 50000 in
theorem u218_368 (d : Nat) (v0 v1 v2 : Value) (x : Int32) (st : List Value) (S : aS) (h : aH) : ev d 218 368 [v0, v1, v2, .int x] st S h = ev d 218 369 [v0, v1, v2, .int x] (.int x :: st) S h := u_LdI rfl rfl d st S h
set_option maxRecDepth 50000 in
theorem u218_369 (d : Nat) (ls st : List Value) (S : aS) (h : aH) : ev d 218 369 ls st S h = ev d 218 370 ls (.int 2 :: st) S h := u_Push rfl d ls st S h
set_option maxRecDepth 50000 in
theorem u218_370 (d : Nat) (ls : List Value) (y x : Int32) (st : List Value) (S : aS) (h : aH) : ev d 218 370 ls (.int y :: .int x :: st) S h = ev d 218 371 ls (.int (x + y) :: st) S h := u_II (f := fun x y => x + y) rfl d ls y x st S h
set_option maxRecDepth 50000 in
theorem u218_371 (d : Nat) (ls : List Value) (i : Int32) (c : Nat) (st : List Value) (S : aS) (h : aH) : ev d 218 371 ls (.int i :: .ref c :: st) S h = gd (aK S c = 100 ∨ aK S c = 200) (gd (inB i (aL S c)) (ev d 218 372 ls (.int (h.1 c i.toNatClampNeg) :: st) S h)) := u_ALdI rfl d ls i c st S h
set_option maxRecDepth 50000 in
theorem u218_372 (d : Nat) (ls : List Value) (x : Int32) (st : List Value) (S : aS) (h : aH) : ev d 218 372 ls (.int x :: st) S h = ev d 218 373 ls (.long (x.toInt64) :: st) S h := u_IL (f := fun x => x.toInt64) rfl d ls x st S h
set_option maxRecDepth 50000 in
theorem u218_373 (d : Nat) (ls st : List Value) (S : aS) (h : aH) : ev d 218 373 ls st S h = ev d 218 376 ls (.long 4294967295 :: st) S h := u_Push rfl d ls st S h
set_option maxRecDepth 50000 in
theorem u218_376 (d : Nat) (ls : List Value) (y x : Int64) (st : List Value) (S : aS) (h : aH) : ev d 218 376 ls (.long y :: .long x :: st) S h = ev d 218 377 ls (.long (x &&& y) :: st) S h := u_LL (f := fun x y => x &&& y) rfl d ls y x st S h
set_option maxRecDepth 50000 in
theorem u218_377 (d : Nat) (ls : List Value) (y x : Int64) (st : List Value) (S : aS) (h : aH) : ev d 218 377 ls (.long y :: .long x :: st) S h = ev d 218 378 ls (.long (x ||| y) :: st) S h := u_LL (f := fun x y => x ||| y) rfl d ls y x st S h
set_option maxRecDepth 50000 in
theorem u218_378 (d : Nat) (v1 v2 v3 : Value) (x : Nat) (st : List Value) (S : aS) (h : aH) : ev d 218 378 [.ref x, v1, v2, v3] st S h = ev d 218 379 [.ref x, v1, v2, v3] (.ref x :: st) S h := u_LdA rfl rfl d st S h
set_option maxRecDepth 50000 in
theorem u218_379 (d : Nat) (v0 v1 v2 : Value) (x : Int32) (st : List Value) (S : aS) (h : aH) : ev d 218 379 [v0, v1, v2, .int x] st S h = ev d 218 380 [v0, v1, v2, .int x] (.int x :: st) S h := u_LdI rfl rfl d st S h
set_option maxRecDepth 50000 in
theorem u218_380 (d : Nat) (ls st : List Value) (S : aS) (h : aH) : ev d 218 380 ls st S h = ev d 218 381 ls (.int 3 :: st) S h := u_Push rfl d ls st S h
set_option maxRecDepth 50000 in
theorem u218_381 (d : Nat) (ls : List Value) (y x : Int32) (st : List Value) (S : aS) (h : aH) : ev d 218 381 ls (.int y :: .int x :: st) S h = ev d 218 382 ls (.int (x + y) :: st) S h := u_II (f := fun x y => x + y) rfl d ls y x st S h
set_option maxRecDepth 50000 in
theorem u218_382 (d : Nat) (ls : List Value) (i : Int32) (c : Nat) (st : List Value) (S : aS) (h : aH) : ev d 218 382 ls (.int i :: .ref c :: st) S h = gd (aK S c = 100 ∨ aK S c = 200) (gd (inB i (aL S c)) (ev d 218 383 ls (.int (h.1 c i.toNatClampNeg) :: st) S h)) := u_ALdI rfl d ls i c st S h
set_option maxRecDepth 50000 in
theorem u218_383 (d : Nat) (ls : List Value) (a0 a1 : Value) (c : Nat) (st : List Value) (S : aS) (h : aH) : ev (d + 1) 218 383 ls (a0 :: a1 :: .ref c :: st) S h = gd (aK S c = 11) (gd (cs st ≤ 8) ((call d 138 [.ref c, a1, a0] S h).bind fun r => ev (d + 1) 218 386 ls (r.1.toList ++ st) r.2.1 r.2.2)) := u_CalV1 (as := [a0, a1]) rfl rfl d ls c st S h
set_option maxRecDepth 50000 in
theorem u218_386 (d : Nat) (ls : List Value) (y x : Int32) (st : List Value) (S : aS) (h : aH) : ev d 218 386 ls (.int y :: .int x :: st) S h = br (x = y) (ev d 218 1047 ls st S h) (ev d 218 389 ls st S h) := u_Ic (P := fun x y => x = y) rfl d ls y x st S h
set_option maxRecDepth 50000 in
theorem u218_389 (d : Nat) (ls st : List Value) (S : aS) (h : aH) : ev d 218 389 ls st S h = ev d 218 390 ls (.int 0 :: st) S h := u_Push rfl d ls st S h
set_option maxRecDepth 50000 in
theorem u218_390 (d : Nat) (ls : List Value) (x : Int32) (S : aS) (h : aH) : ev d 218 390 ls [.int x] S h = gd (vp_nar .boolean x = x) (some (some (.int x), S, h)) := u_RetN rfl d ls x S h
set_option maxRecDepth 50000 in
theorem u218_391 (d : Nat) (v0 v2 v3 : Value) (x : Nat) (st : List Value) (S : aS) (h : aH) : ev d 218 391 [v0, .ref x, v2, v3] st S h = ev d 218 392 [v0, .ref x, v2, v3] (.ref x :: st) S h := u_LdA rfl rfl d st S h
set_option maxRecDepth 50000 in
theorem u218_392 (d : Nat) (ls : List Value) (c : Nat) (st : List Value) (S : aS) (h : aH) : ev (d + 1) 218 392 ls (.ref c :: st) S h = gd (aK S c = 10) (gd (cs st ≤ 8) ((call d 87 [.ref c] S h).bind fun r => ev (d + 1) 218 395 ls (r.1.toList ++ st) r.2.1 r.2.2)) := u_CalV1 (as := []) rfl rfl d ls c st S h
set_option maxRecDepth 50000 in
theorem u218_395 (d : Nat) (v0 v1 v3 : Value) (x : Nat) (st : List Value) (S : aS) (h : aH) : ev d 218 395 [v0, v1, .ref x, v3] st S h = ev d 218 396 [v0, v1, .ref x, v3] (.ref x :: st) S h := u_LdA rfl rfl d st S h
set_option maxRecDepth 50000 in
theorem u218_396 (d : Nat) (ls : List Value) (c : Nat) (st : List Value) (S : aS) (h : aH) : ev (d + 1) 218 396 ls (.ref c :: st) S h = gd (aK S c = 11) (gd (cs st ≤ 8) ((call d 156 [.ref c] S h).bind fun r => ev (d + 1) 218 399 ls (r.1.toList ++ st) r.2.1 r.2.2)) := u_CalV1 (as := []) rfl rfl d ls c st S h
set_option maxRecDepth 50000 in
theorem u218_399 (d : Nat) (ls : List Value) (y x : Int32) (st : List Value) (S : aS) (h : aH) : ev d 218 399 ls (.int y :: .int x :: st) S h = br (x = y) (ev d 218 1047 ls st S h) (ev d 218 402 ls st S h) := u_Ic (P := fun x y => x = y) rfl d ls y x st S h
set_option maxRecDepth 50000 in
theorem u218_402 (d : Nat) (ls st : List Value) (S : aS) (h : aH) : ev d 218 402 ls st S h = ev d 218 403 ls (.int 0 :: st) S h := u_Push rfl d ls st S h
set_option maxRecDepth 50000 in
theorem u218_403 (d : Nat) (ls : List Value) (x : Int32) (S : aS) (h : aH) : ev d 218 403 ls [.int x] S h = gd (vp_nar .boolean x = x) (some (some (.int x), S, h)) := u_RetN rfl d ls x S h
set_option maxRecDepth 50000 in
theorem u218_404 (d : Nat) (v0 v2 v3 : Value) (x : Nat) (st : List Value) (S : aS) (h : aH) : ev d 218 404 [v0, .ref x, v2, v3] st S h = ev d 218 405 [v0, .ref x, v2, v3] (.ref x :: st) S h := u_LdA rfl rfl d st S h
set_option maxRecDepth 50000 in
theorem u218_405 (d : Nat) (ls : List Value) (c : Nat) (st : List Value) (S : aS) (h : aH) : ev (d + 1) 218 405 ls (.ref c :: st) S h = gd (aK S c = 10) (gd (cs st ≤ 8) ((call d 88 [.ref c] S h).bind fun r => ev (d + 1) 218 408 ls (r.1.toList ++ st) r.2.1 r.2.2)) := u_CalV1 (as := []) rfl rfl d ls c st S h
set_option maxRecDepth 50000 in
theorem u218_408 (d : Nat) (v0 v1 v3 : Value) (x : Nat) (st : List Value) (S : aS) (h : aH) : ev d 218 408 [v0, v1, .ref x, v3] st S h = ev d 218 409 [v0, v1, .ref x, v3] (.ref x :: st) S h := u_LdA rfl rfl d st S h
set_option maxRecDepth 50000 in
theorem u218_409 (d : Nat) (ls : List Value) (c : Nat) (st : List Value) (S : aS) (h : aH) : ev (d + 1) 218 409 ls (.ref c :: st) S h = gd (aK S c = 11) (gd (cs st ≤ 8) ((call d 157 [.ref c] S h).bind fun r => ev (d + 1) 218 412 ls (r.1.toList ++ st) r.2.1 r.2.2)) := u_CalV1 (as := []) rfl rfl d ls c st S h
set_option maxRecDepth 50000 in
theorem u218_412 (d : Nat) (ls : List Value) (y x : Int32) (st : List Value) (S : aS) (h : aH) : ev d 218 412 ls (.int y :: .int x :: st) S h = br (x = y) (ev d 218 1047 ls st S h) (ev d 218 415 ls st S h) := u_Ic (P := fun x y => x = y) rfl d ls y x st S h
set_option maxRecDepth 50000 in
theorem u218_415 (d : Nat) (ls st : List Value) (S : aS) (h : aH) : ev d 218 415 ls st S h = ev d 218 416 ls (.int 0 :: st) S h := u_Push rfl d ls st S h
set_option maxRecDepth 50000 in
theorem u218_416 (d : Nat) (ls : List Value) (x : Int32) (S : aS) (h : aH) : ev d 218 416 ls [.int x] S h = gd (vp_nar .boolean x = x) (some (some (.int x), S, h)) := u_RetN rfl d ls x S h
set_option maxRecDepth 50000 in
theorem u218_417 (d : Nat) (v0 v2 v3 : Value) (x : Nat) (st : List Value) (S : aS) (h : aH) : ev d 218 417 [v0, .ref x, v2, v3] st S h = ev d 218 418 [v0, .ref x, v2, v3] (.ref x :: st) S h := u_LdA rfl rfl d st S h
set_option maxRecDepth 50000 in
theorem u218_418 (d : Nat) (v1 v2 v3 : Value) (x : Nat) (st : List Value) (S : aS) (h : aH) : ev d 218 418 [.ref x, v1, v2, v3] st S h = ev d 218 419 [.ref x, v1, v2, v3] (.ref x :: st) S h := u_LdA rfl rfl d st S h
set_option maxRecDepth 50000 in
theorem u218_419 (d : Nat) (v0 v1 v2 : Value) (x : Int32) (st : List Value) (S : aS) (h : aH) : ev d 218 419 [v0, v1, v2, .int x] st S h = ev d 218 420 [v0, v1, v2, .int x] (.int x :: st) S h := u_LdI rfl rfl d st S h
set_option maxRecDepth 50000 in
theorem u218_420 (d : Nat) (ls st : List Value) (S : aS) (h : aH) : ev d 218 420 ls st S h = ev d 218 421 ls (.int 1 :: st) S h := u_Push rfl d ls st S h
set_option maxRecDepth 50000 in
theorem u218_421 (d : Nat) (ls : List Value) (y x : Int32) (st : List Value) (S : aS) (h : aH) : ev d 218 421 ls (.int y :: .int x :: st) S h = ev d 218 422 ls (.int (x + y) :: st) S h := u_II (f := fun x y => x + y) rfl d ls y x st S h
set_option maxRecDepth 50000 in
theorem u218_422 (d : Nat) (ls : List Value) (i : Int32) (c : Nat) (st : List Value) (S : aS) (h : aH) : ev d 218 422 ls (.int i :: .ref c :: st) S h = gd (aK S c = 100 ∨ aK S c = 200) (gd (inB i (aL S c)) (ev d 218 423 ls (.int (h.1 c i.toNatClampNeg) :: st) S h)) := u_ALdI rfl d ls i c st S h
set_option maxRecDepth 50000 in
theorem u218_423 (d : Nat) (v1 v2 v3 : Value) (x : Nat) (st : List Value) (S : aS) (h : aH) : ev d 218 423 [.ref x, v1, v2, v3] st S h = ev d 218 424 [.ref x, v1, v2, v3] (.ref x :: st) S h := u_LdA rfl rfl d st S h
set_option maxRecDepth 50000 in
theorem u218_424 (d : Nat) (v0 v1 v2 : Value) (x : Int32) (st : List Value) (S : aS) (h : aH) : ev d 218 424 [v0, v1, v2, .int x] st S h = ev d 218 425 [v0, v1, v2, .int x] (.int x :: st) S h := u_LdI rfl rfl d st S h
set_option maxRecDepth 50000 in
theorem u218_425 (d : Nat) (ls st : List Value) (S : aS) (h : aH) : ev d 218 425 ls st S h = ev d 218 426 ls (.int 2 :: st) S h := u_Push rfl d ls st S h
set_option maxRecDepth 50000 in
theorem u218_426 (d : Nat) (ls : List Value) (y x : Int32) (st : List Value) (S : aS) (h : aH) : ev d 218 426 ls (.int y :: .int x :: st) S h = ev d 218 427 ls (.int (x + y) :: st) S h := u_II (f := fun x y => x + y) rfl d ls y x st S h
set_option maxRecDepth 50000 in
theorem u218_427 (d : Nat) (ls : List Value) (i : Int32) (c : Nat) (st : List Value) (S : aS) (h : aH) : ev d 218 427 ls (.int i :: .ref c :: st) S h = gd (aK S c = 100 ∨ aK S c = 200) (gd (inB i (aL S c)) (ev d 218 428 ls (.int (h.1 c i.toNatClampNeg) :: st) S h)) := u_ALdI rfl d ls i c st S h
set_option maxRecDepth 50000 in
theorem u218_428 (d : Nat) (ls : List Value) (a0 a1 : Value) (c : Nat) (st : List Value) (S : aS) (h : aH) : ev (d + 1) 218 428 ls (a0 :: a1 :: .ref c :: st) S h = gd (aK S c = 10) (gd (cs st ≤ 8) ((call d 89 [.ref c, a1, a0] S h).bind fun r => ev (d + 1) 218 431 ls (r.1.toList ++ st) r.2.1 r.2.2)) := u_CalV1 (as := [a0, a1]) rfl rfl d ls c st S h
set_option maxRecDepth 50000 in
theorem u218_431 (d : Nat) (v0 v1 v3 : Value) (x : Nat) (st : List Value) (S : aS) (h : aH) : ev d 218 431 [v0, v1, .ref x, v3] st S h = ev d 218 432 [v0, v1, .ref x, v3] (.ref x :: st) S h := u_LdA rfl rfl d st S h
set_option maxRecDepth 50000 in
theorem u218_432 (d : Nat) (v1 v2 v3 : Value) (x : Nat) (st : List Value) (S : aS) (h : aH) : ev d 218 432 [.ref x, v1, v2, v3] st S h = ev d 218 433 [.ref x, v1, v2, v3] (.ref x :: st) S h := u_LdA rfl rfl d st S h
set_option maxRecDepth 50000 in
theorem u218_433 (d : Nat) (v0 v1 v2 : Value) (x : Int32) (st : List Value) (S : aS) (h : aH) : ev d 218 433 [v0, v1, v2, .int x] st S h = ev d 218 434 [v0, v1, v2, .int x] (.int x :: st) S h := u_LdI rfl rfl d st S h
set_option maxRecDepth 50000 in
theorem u218_434 (d : Nat) (ls st : List Value) (S : aS) (h : aH) : ev d 218 434 ls st S h = ev d 218 435 ls (.int 1 :: st) S h := u_Push rfl d ls st S h
set_option maxRecDepth 50000 in
theorem u218_435 (d : Nat) (ls : List Value) (y x : Int32) (st : List Value) (S : aS) (h : aH) : ev d 218 435 ls (.int y :: .int x :: st) S h = ev d 218 436 ls (.int (x + y) :: st) S h := u_II (f := fun x y => x + y) rfl d ls y x st S h
set_option maxRecDepth 50000 in
theorem u218_436 (d : Nat) (ls : List Value) (i : Int32) (c : Nat) (st : List Value) (S : aS) (h : aH) : ev d 218 436 ls (.int i :: .ref c :: st) S h = gd (aK S c = 100 ∨ aK S c = 200) (gd (inB i (aL S c)) (ev d 218 437 ls (.int (h.1 c i.toNatClampNeg) :: st) S h)) := u_ALdI rfl d ls i c st S h
set_option maxRecDepth 50000 in
theorem u218_437 (d : Nat) (v1 v2 v3 : Value) (x : Nat) (st : List Value) (S : aS) (h : aH) : ev d 218 437 [.ref x, v1, v2, v3] st S h = ev d 218 438 [.ref x, v1, v2, v3] (.ref x :: st) S h := u_LdA rfl rfl d st S h
set_option maxRecDepth 50000 in
theorem u218_438 (d : Nat) (v0 v1 v2 : Value) (x : Int32) (st : List Value) (S : aS) (h : aH) : ev d 218 438 [v0, v1, v2, .int x] st S h = ev d 218 439 [v0, v1, v2, .int x] (.int x :: st) S h := u_LdI rfl rfl d st S h
set_option maxRecDepth 50000 in
theorem u218_439 (d : Nat) (ls st : List Value) (S : aS) (h : aH) : ev d 218 439 ls st S h = ev d 218 440 ls (.int 2 :: st) S h := u_Push rfl d ls st S h
set_option maxRecDepth 50000 in
theorem u218_440 (d : Nat) (ls : List Value) (y x : Int32) (st : List Value) (S : aS) (h : aH) : ev d 218 440 ls (.int y :: .int x :: st) S h = ev d 218 441 ls (.int (x + y) :: st) S h := u_II (f := fun x y => x + y) rfl d ls y x st S h
set_option maxRecDepth 50000 in
theorem u218_441 (d : Nat) (ls : List Value) (i : Int32) (c : Nat) (st : List Value) (S : aS) (h : aH) : ev d 218 441 ls (.int i :: .ref c :: st) S h = gd (aK S c = 100 ∨ aK S c = 200) (gd (inB i (aL S c)) (ev d 218 442 ls (.int (h.1 c i.toNatClampNeg) :: st) S h)) := u_ALdI rfl d ls i c st S h
set_option maxRecDepth 50000 in
theorem u218_442 (d : Nat) (ls : List Value) (a0 a1 : Value) (c : Nat) (st : List Value) (S : aS) (h : aH) : ev (d + 1) 218 442 ls (a0 :: a1 :: .ref c :: st) S h = gd (aK S c = 11) (gd (cs st ≤ 8) ((call d 168 [.ref c, a1, a0] S h).bind fun r => ev (d + 1) 218 445 ls (r.1.toList ++ st) r.2.1 r.2.2)) := u_CalV1 (as := [a0, a1]) rfl rfl d ls c st S h
set_option maxRecDepth 50000 in
theorem u218_445 (d : Nat) (ls : List Value) (y x : Int32) (st : List Value) (S : aS) (h : aH) : ev d 218 445 ls (.int y :: .int x :: st) S h = br (x = y) (ev d 218 1047 ls st S h) (ev d 218 448 ls st S h) := u_Ic (P := fun x y => x = y) rfl d ls y x st S h
set_option maxRecDepth 50000 in
theorem u218_448 (d : Nat) (ls st : List Value) (S : aS) (h : aH) : ev d 218 448 ls st S h = ev d 218 449 ls (.int 0 :: st) S h := u_Push rfl d ls st S h
set_option maxRecDepth 50000 in
theorem u218_449 (d : Nat) (ls : List Value) (x : Int32) (S : aS) (h : aH) : ev d 218 449 ls [.int x] S h = gd (vp_nar .boolean x = x) (some (some (.int x), S, h)) := u_RetN rfl d ls x S h
set_option maxRecDepth 50000 in
theorem u218_450 (d : Nat) (v0 v2 v3 : Value) (x : Nat) (st : List Value) (S : aS) (h : aH) : ev d 218 450 [v0, .ref x, v2, v3] st S h = ev d 218 451 [v0, .ref x, v2, v3] (.ref x :: st) S h := u_LdA rfl rfl d st S h
set_option maxRecDepth 50000 in
theorem u218_451 (d : Nat) (v1 v2 v3 : Value) (x : Nat) (st : List Value) (S : aS) (h : aH) : ev d 218 451 [.ref x, v1, v2, v3] st S h = ev d 218 452 [.ref x, v1, v2, v3] (.ref x :: st) S h := u_LdA rfl rfl d st S h
set_option maxRecDepth 50000 in
theorem u218_452 (d : Nat) (v0 v1 v2 : Value) (x : Int32) (st : List Value) (S : aS) (h : aH) : ev d 218 452 [v0, v1, v2, .int x] st S h = ev d 218 453 [v0, v1, v2, .int x] (.int x :: st) S h := u_LdI rfl rfl d st S h
set_option maxRecDepth 50000 in
theorem u218_453 (d : Nat) (ls st : List Value) (S : aS) (h : aH) : ev d 218 453 ls st S h = ev d 218 454 ls (.int 1 :: st) S h := u_Push rfl d ls st S h
set_option maxRecDepth 50000 in
theorem u218_454 (d : Nat) (ls : List Value) (y x : Int32) (st : List Value) (S : aS) (h : aH) : ev d 218 454 ls (.int y :: .int x :: st) S h = ev d 218 455 ls (.int (x + y) :: st) S h := u_II (f := fun x y => x + y) rfl d ls y x st S h
set_option maxRecDepth 50000 in
theorem u218_455 (d : Nat) (ls : List Value) (i : Int32) (c : Nat) (st : List Value) (S : aS) (h : aH) : ev d 218 455 ls (.int i :: .ref c :: st) S h = gd (aK S c = 100 ∨ aK S c = 200) (gd (inB i (aL S c)) (ev d 218 456 ls (.int (h.1 c i.toNatClampNeg) :: st) S h)) := u_ALdI rfl d ls i c st S h
set_option maxRecDepth 50000 in
theorem u218_456 (d : Nat) (v1 v2 v3 : Value) (x : Nat) (st : List Value) (S : aS) (h : aH) : ev d 218 456 [.ref x, v1, v2, v3] st S h = ev d 218 457 [.ref x, v1, v2, v3] (.ref x :: st) S h := u_LdA rfl rfl d st S h
set_option maxRecDepth 50000 in
theorem u218_457 (d : Nat) (v0 v1 v2 : Value) (x : Int32) (st : List Value) (S : aS) (h : aH) : ev d 218 457 [v0, v1, v2, .int x] st S h = ev d 218 458 [v0, v1, v2, .int x] (.int x :: st) S h := u_LdI rfl rfl d st S h
set_option maxRecDepth 50000 in
theorem u218_458 (d : Nat) (ls st : List Value) (S : aS) (h : aH) : ev d 218 458 ls st S h = ev d 218 459 ls (.int 2 :: st) S h := u_Push rfl d ls st S h
set_option maxRecDepth 50000 in
theorem u218_459 (d : Nat) (ls : List Value) (y x : Int32) (st : List Value) (S : aS) (h : aH) : ev d 218 459 ls (.int y :: .int x :: st) S h = ev d 218 460 ls (.int (x + y) :: st) S h := u_II (f := fun x y => x + y) rfl d ls y x st S h
set_option maxRecDepth 50000 in
theorem u218_460 (d : Nat) (ls : List Value) (i : Int32) (c : Nat) (st : List Value) (S : aS) (h : aH) : ev d 218 460 ls (.int i :: .ref c :: st) S h = gd (aK S c = 100 ∨ aK S c = 200) (gd (inB i (aL S c)) (ev d 218 461 ls (.int (h.1 c i.toNatClampNeg) :: st) S h)) := u_ALdI rfl d ls i c st S h
set_option maxRecDepth 50000 in
theorem u218_461 (d : Nat) (v1 v2 v3 : Value) (x : Nat) (st : List Value) (S : aS) (h : aH) : ev d 218 461 [.ref x, v1, v2, v3] st S h = ev d 218 462 [.ref x, v1, v2, v3] (.ref x :: st) S h := u_LdA rfl rfl d st S h
set_option maxRecDepth 50000 in
theorem u218_462 (d : Nat) (v0 v1 v2 : Value) (x : Int32) (st : List Value) (S : aS) (h : aH) : ev d 218 462 [v0, v1, v2, .int x] st S h = ev d 218 463 [v0, v1, v2, .int x] (.int x :: st) S h := u_LdI rfl rfl d st S h
set_option maxRecDepth 50000 in
theorem u218_463 (d : Nat) (ls st : List Value) (S : aS) (h : aH) : ev d 218 463 ls st S h = ev d 218 464 ls (.int 3 :: st) S h := u_Push rfl d ls st S h
set_option maxRecDepth 50000 in
theorem u218_464 (d : Nat) (ls : List Value) (y x : Int32) (st : List Value) (S : aS) (h : aH) : ev d 218 464 ls (.int y :: .int x :: st) S h = ev d 218 465 ls (.int (x + y) :: st) S h := u_II (f := fun x y => x + y) rfl d ls y x st S h
set_option maxRecDepth 50000 in
theorem u218_465 (d : Nat) (ls : List Value) (i : Int32) (c : Nat) (st : List Value) (S : aS) (h : aH) : ev d 218 465 ls (.int i :: .ref c :: st) S h = gd (aK S c = 100 ∨ aK S c = 200) (gd (inB i (aL S c)) (ev d 218 466 ls (.int (h.1 c i.toNatClampNeg) :: st) S h)) := u_ALdI rfl d ls i c st S h
set_option maxRecDepth 50000 in
theorem u218_466 (d : Nat) (v1 v2 v3 : Value) (x : Nat) (st : List Value) (S : aS) (h : aH) : ev d 218 466 [.ref x, v1, v2, v3] st S h = ev d 218 467 [.ref x, v1, v2, v3] (.ref x :: st) S h := u_LdA rfl rfl d st S h
set_option maxRecDepth 50000 in
theorem u218_467 (d : Nat) (v0 v1 v2 : Value) (x : Int32) (st : List Value) (S : aS) (h : aH) : ev d 218 467 [v0, v1, v2, .int x] st S h = ev d 218 468 [v0, v1, v2, .int x] (.int x :: st) S h := u_LdI rfl rfl d st S h
set_option maxRecDepth 50000 in
theorem u218_468 (d : Nat) (ls st : List Value) (S : aS) (h : aH) : ev d 218 468 ls st S h = ev d 218 469 ls (.int 4 :: st) S h := u_Push rfl d ls st S h
set_option maxRecDepth 50000 in
theorem u218_469 (d : Nat) (ls : List Value) (y x : Int32) (st : List Value) (S : aS) (h : aH) : ev d 218 469 ls (.int y :: .int x :: st) S h = ev d 218 470 ls (.int (x + y) :: st) S h := u_II (f := fun x y => x + y) rfl d ls y x st S h
set_option maxRecDepth 50000 in
theorem u218_470 (d : Nat) (ls : List Value) (i : Int32) (c : Nat) (st : List Value) (S : aS) (h : aH) : ev d 218 470 ls (.int i :: .ref c :: st) S h = gd (aK S c = 100 ∨ aK S c = 200) (gd (inB i (aL S c)) (ev d 218 471 ls (.int (h.1 c i.toNatClampNeg) :: st) S h)) := u_ALdI rfl d ls i c st S h
set_option maxRecDepth 50000 in
theorem u218_471 (d : Nat) (ls : List Value) (a0 a1 a2 a3 : Value) (c : Nat) (st : List Value) (S : aS) (h : aH) : ev (d + 1) 218 471 ls (a0 :: a1 :: a2 :: a3 :: .ref c :: st) S h = gd (aK S c = 10) (gd (cs st ≤ 8) ((call d 90 [.ref c, a3, a2, a1, a0] S h).bind fun r => ev (d + 1) 218 474 ls (r.1.toList ++ st) r.2.1 r.2.2)) := u_CalV1 (as := [a0, a1, a2, a3]) rfl rfl d ls c st S h
set_option maxRecDepth 50000 in
theorem u218_474 (d : Nat) (v0 v1 v3 : Value) (x : Nat) (st : List Value) (S : aS) (h : aH) : ev d 218 474 [v0, v1, .ref x, v3] st S h = ev d 218 475 [v0, v1, .ref x, v3] (.ref x :: st) S h := u_LdA rfl rfl d st S h
set_option maxRecDepth 50000 in
theorem u218_475 (d : Nat) (v1 v2 v3 : Value) (x : Nat) (st : List Value) (S : aS) (h : aH) : ev d 218 475 [.ref x, v1, v2, v3] st S h = ev d 218 476 [.ref x, v1, v2, v3] (.ref x :: st) S h := u_LdA rfl rfl d st S h
set_option maxRecDepth 50000 in
theorem u218_476 (d : Nat) (v0 v1 v2 : Value) (x : Int32) (st : List Value) (S : aS) (h : aH) : ev d 218 476 [v0, v1, v2, .int x] st S h = ev d 218 477 [v0, v1, v2, .int x] (.int x :: st) S h := u_LdI rfl rfl d st S h
set_option maxRecDepth 50000 in
theorem u218_477 (d : Nat) (ls st : List Value) (S : aS) (h : aH) : ev d 218 477 ls st S h = ev d 218 478 ls (.int 1 :: st) S h := u_Push rfl d ls st S h
set_option maxRecDepth 50000 in
theorem u218_478 (d : Nat) (ls : List Value) (y x : Int32) (st : List Value) (S : aS) (h : aH) : ev d 218 478 ls (.int y :: .int x :: st) S h = ev d 218 479 ls (.int (x + y) :: st) S h := u_II (f := fun x y => x + y) rfl d ls y x st S h
set_option maxRecDepth 50000 in
theorem u218_479 (d : Nat) (ls : List Value) (i : Int32) (c : Nat) (st : List Value) (S : aS) (h : aH) : ev d 218 479 ls (.int i :: .ref c :: st) S h = gd (aK S c = 100 ∨ aK S c = 200) (gd (inB i (aL S c)) (ev d 218 480 ls (.int (h.1 c i.toNatClampNeg) :: st) S h)) := u_ALdI rfl d ls i c st S h
set_option maxRecDepth 50000 in
theorem u218_480 (d : Nat) (v1 v2 v3 : Value) (x : Nat) (st : List Value) (S : aS) (h : aH) : ev d 218 480 [.ref x, v1, v2, v3] st S h = ev d 218 481 [.ref x, v1, v2, v3] (.ref x :: st) S h := u_LdA rfl rfl d st S h
set_option maxRecDepth 50000 in
theorem u218_481 (d : Nat) (v0 v1 v2 : Value) (x : Int32) (st : List Value) (S : aS) (h : aH) : ev d 218 481 [v0, v1, v2, .int x] st S h = ev d 218 482 [v0, v1, v2, .int x] (.int x :: st) S h := u_LdI rfl rfl d st S h
set_option maxRecDepth 50000 in
theorem u218_482 (d : Nat) (ls st : List Value) (S : aS) (h : aH) : ev d 218 482 ls st S h = ev d 218 483 ls (.int 2 :: st) S h := u_Push rfl d ls st S h
set_option maxRecDepth 50000 in
theorem u218_483 (d : Nat) (ls : List Value) (y x : Int32) (st : List Value) (S : aS) (h : aH) : ev d 218 483 ls (.int y :: .int x :: st) S h = ev d 218 484 ls (.int (x + y) :: st) S h := u_II (f := fun x y => x + y) rfl d ls y x st S h
set_option maxRecDepth 50000 in
theorem u218_484 (d : Nat) (ls : List Value) (i : Int32) (c : Nat) (st : List Value) (S : aS) (h : aH) : ev d 218 484 ls (.int i :: .ref c :: st) S h = gd (aK S c = 100 ∨ aK S c = 200) (gd (inB i (aL S c)) (ev d 218 485 ls (.int (h.1 c i.toNatClampNeg) :: st) S h)) := u_ALdI rfl d ls i c st S h
set_option maxRecDepth 50000 in
theorem u218_485 (d : Nat) (v1 v2 v3 : Value) (x : Nat) (st : List Value) (S : aS) (h : aH) : ev d 218 485 [.ref x, v1, v2, v3] st S h = ev d 218 486 [.ref x, v1, v2, v3] (.ref x :: st) S h := u_LdA rfl rfl d st S h
set_option maxRecDepth 50000 in
theorem u218_486 (d : Nat) (v0 v1 v2 : Value) (x : Int32) (st : List Value) (S : aS) (h : aH) : ev d 218 486 [v0, v1, v2, .int x] st S h = ev d 218 487 [v0, v1, v2, .int x] (.int x :: st) S h := u_LdI rfl rfl d st S h
set_option maxRecDepth 50000 in
theorem u218_487 (d : Nat) (ls st : List Value) (S : aS) (h : aH) : ev d 218 487 ls st S h = ev d 218 488 ls (.int 3 :: st) S h := u_Push rfl d ls st S h
set_option maxRecDepth 50000 in
theorem u218_488 (d : Nat) (ls : List Value) (y x : Int32) (st : List Value) (S : aS) (h : aH) : ev d 218 488 ls (.int y :: .int x :: st) S h = ev d 218 489 ls (.int (x + y) :: st) S h := u_II (f := fun x y => x + y) rfl d ls y x st S h
set_option maxRecDepth 50000 in
theorem u218_489 (d : Nat) (ls : List Value) (i : Int32) (c : Nat) (st : List Value) (S : aS) (h : aH) : ev d 218 489 ls (.int i :: .ref c :: st) S h = gd (aK S c = 100 ∨ aK S c = 200) (gd (inB i (aL S c)) (ev d 218 490 ls (.int (h.1 c i.toNatClampNeg) :: st) S h)) := u_ALdI rfl d ls i c st S h
set_option maxRecDepth 50000 in
theorem u218_490 (d : Nat) (v1 v2 v3 : Value) (x : Nat) (st : List Value) (S : aS) (h : aH) : ev d 218 490 [.ref x, v1, v2, v3] st S h = ev d 218 491 [.ref x, v1, v2, v3] (.ref x :: st) S h := u_LdA rfl rfl d st S h
set_option maxRecDepth 50000 in
theorem u218_491 (d : Nat) (v0 v1 v2 : Value) (x : Int32) (st : List Value) (S : aS) (h : aH) : ev d 218 491 [v0, v1, v2, .int x] st S h = ev d 218 492 [v0, v1, v2, .int x] (.int x :: st) S h := u_LdI rfl rfl d st S h
set_option maxRecDepth 50000 in
theorem u218_492 (d : Nat) (ls st : List Value) (S : aS) (h : aH) : ev d 218 492 ls st S h = ev d 218 493 ls (.int 4 :: st) S h := u_Push rfl d ls st S h
set_option maxRecDepth 50000 in
theorem u218_493 (d : Nat) (ls : List Value) (y x : Int32) (st : List Value) (S : aS) (h : aH) : ev d 218 493 ls (.int y :: .int x :: st) S h = ev d 218 494 ls (.int (x + y) :: st) S h := u_II (f := fun x y => x + y) rfl d ls y x st S h
set_option maxRecDepth 50000 in
theorem u218_494 (d : Nat) (ls : List Value) (i : Int32) (c : Nat) (st : List Value) (S : aS) (h : aH) : ev d 218 494 ls (.int i :: .ref c :: st) S h = gd (aK S c = 100 ∨ aK S c = 200) (gd (inB i (aL S c)) (ev d 218 495 ls (.int (h.1 c i.toNatClampNeg) :: st) S h)) := u_ALdI rfl d ls i c st S h
set_option maxRecDepth 50000 in
theorem u218_495 (d : Nat) (ls : List Value) (a0 a1 a2 a3 : Value) (c : Nat) (st : List Value) (S : aS) (h : aH) : ev (d + 1) 218 495 ls (a0 :: a1 :: a2 :: a3 :: .ref c :: st) S h = gd (aK S c = 11) (gd (cs st ≤ 8) ((call d 174 [.ref c, a3, a2, a1, a0] S h).bind fun r => ev (d + 1) 218 498 ls (r.1.toList ++ st) r.2.1 r.2.2)) := u_CalV1 (as := [a0, a1, a2, a3]) rfl rfl d ls c st S h
set_option maxRecDepth 50000 in
theorem u218_498 (d : Nat) (ls : List Value) (y x : Int32) (st : List Value) (S : aS) (h : aH) : ev d 218 498 ls (.int y :: .int x :: st) S h = br (x = y) (ev d 218 1047 ls st S h) (ev d 218 501 ls st S h) := u_Ic (P := fun x y => x = y) rfl d ls y x st S h
set_option maxRecDepth 50000 in
theorem u218_501 (d : Nat) (ls st : List Value) (S : aS) (h : aH) : ev d 218 501 ls st S h = ev d 218 502 ls (.int 0 :: st) S h := u_Push rfl d ls st S h
set_option maxRecDepth 50000 in
theorem u218_502 (d : Nat) (ls : List Value) (x : Int32) (S : aS) (h : aH) : ev d 218 502 ls [.int x] S h = gd (vp_nar .boolean x = x) (some (some (.int x), S, h)) := u_RetN rfl d ls x S h
set_option maxRecDepth 50000 in
theorem u218_503 (d : Nat) (v0 v2 v3 : Value) (x : Nat) (st : List Value) (S : aS) (h : aH) : ev d 218 503 [v0, .ref x, v2, v3] st S h = ev d 218 504 [v0, .ref x, v2, v3] (.ref x :: st) S h := u_LdA rfl rfl d st S h
set_option maxRecDepth 50000 in
theorem u218_504 (d : Nat) (v1 v2 v3 : Value) (x : Nat) (st : List Value) (S : aS) (h : aH) : ev d 218 504 [.ref x, v1, v2, v3] st S h = ev d 218 505 [.ref x, v1, v2, v3] (.ref x :: st) S h := u_LdA rfl rfl d st S h
set_option maxRecDepth 50000 in
theorem u218_505 (d : Nat) (v0 v1 v2 : Value) (x : Int32) (st : List Value) (S : aS) (h : aH) : ev d 218 505 [v0, v1, v2, .int x] st S h = ev d 218 506 [v0, v1, v2, .int x] (.int x :: st) S h := u_LdI rfl rfl d st S h
set_option maxRecDepth 50000 in
theorem u218_506 (d : Nat) (ls st : List Value) (S : aS) (h : aH) : ev d 218 506 ls st S h = ev d 218 507 ls (.int 1 :: st) S h := u_Push rfl d ls st S h
set_option maxRecDepth 50000 in
theorem u218_507 (d : Nat) (ls : List Value) (y x : Int32) (st : List Value) (S : aS) (h : aH) : ev d 218 507 ls (.int y :: .int x :: st) S h = ev d 218 508 ls (.int (x + y) :: st) S h := u_II (f := fun x y => x + y) rfl d ls y x st S h
set_option maxRecDepth 50000 in
theorem u218_508 (d : Nat) (ls : List Value) (i : Int32) (c : Nat) (st : List Value) (S : aS) (h : aH) : ev d 218 508 ls (.int i :: .ref c :: st) S h = gd (aK S c = 100 ∨ aK S c = 200) (gd (inB i (aL S c)) (ev d 218 509 ls (.int (h.1 c i.toNatClampNeg) :: st) S h)) := u_ALdI rfl d ls i c st S h
set_option maxRecDepth 50000 in
theorem u218_509 (d : Nat) (v1 v2 v3 : Value) (x : Nat) (st : List Value) (S : aS) (h : aH) : ev d 218 509 [.ref x, v1, v2, v3] st S h = ev d 218 510 [.ref x, v1, v2, v3] (.ref x :: st) S h := u_LdA rfl rfl d st S h
set_option maxRecDepth 50000 in
theorem u218_510 (d : Nat) (v0 v1 v2 : Value) (x : Int32) (st : List Value) (S : aS) (h : aH) : ev d 218 510 [v0, v1, v2, .int x] st S h = ev d 218 511 [v0, v1, v2, .int x] (.int x :: st) S h := u_LdI rfl rfl d st S h
set_option maxRecDepth 50000 in
theorem u218_511 (d : Nat) (ls st : List Value) (S : aS) (h : aH) : ev d 218 511 ls st S h = ev d 218 512 ls (.int 2 :: st) S h := u_Push rfl d ls st S h
set_option maxRecDepth 50000 in
theorem u218_512 (d : Nat) (ls : List Value) (y x : Int32) (st : List Value) (S : aS) (h : aH) : ev d 218 512 ls (.int y :: .int x :: st) S h = ev d 218 513 ls (.int (x + y) :: st) S h := u_II (f := fun x y => x + y) rfl d ls y x st S h
set_option maxRecDepth 50000 in
theorem u218_513 (d : Nat) (ls : List Value) (i : Int32) (c : Nat) (st : List Value) (S : aS) (h : aH) : ev d 218 513 ls (.int i :: .ref c :: st) S h = gd (aK S c = 100 ∨ aK S c = 200) (gd (inB i (aL S c)) (ev d 218 514 ls (.int (h.1 c i.toNatClampNeg) :: st) S h)) := u_ALdI rfl d ls i c st S h
set_option maxRecDepth 50000 in
theorem u218_514 (d : Nat) (v1 v2 v3 : Value) (x : Nat) (st : List Value) (S : aS) (h : aH) : ev d 218 514 [.ref x, v1, v2, v3] st S h = ev d 218 515 [.ref x, v1, v2, v3] (.ref x :: st) S h := u_LdA rfl rfl d st S h
set_option maxRecDepth 50000 in
theorem u218_515 (d : Nat) (v0 v1 v2 : Value) (x : Int32) (st : List Value) (S : aS) (h : aH) : ev d 218 515 [v0, v1, v2, .int x] st S h = ev d 218 516 [v0, v1, v2, .int x] (.int x :: st) S h := u_LdI rfl rfl d st S h
set_option maxRecDepth 50000 in
theorem u218_516 (d : Nat) (ls st : List Value) (S : aS) (h : aH) : ev d 218 516 ls st S h = ev d 218 517 ls (.int 3 :: st) S h := u_Push rfl d ls st S h
set_option maxRecDepth 50000 in
theorem u218_517 (d : Nat) (ls : List Value) (y x : Int32) (st : List Value) (S : aS) (h : aH) : ev d 218 517 ls (.int y :: .int x :: st) S h = ev d 218 518 ls (.int (x + y) :: st) S h := u_II (f := fun x y => x + y) rfl d ls y x st S h
set_option maxRecDepth 50000 in
theorem u218_518 (d : Nat) (ls : List Value) (i : Int32) (c : Nat) (st : List Value) (S : aS) (h : aH) : ev d 218 518 ls (.int i :: .ref c :: st) S h = gd (aK S c = 100 ∨ aK S c = 200) (gd (inB i (aL S c)) (ev d 218 519 ls (.int (h.1 c i.toNatClampNeg) :: st) S h)) := u_ALdI rfl d ls i c st S h
set_option maxRecDepth 50000 in
theorem u218_519 (d : Nat) (v1 v2 v3 : Value) (x : Nat) (st : List Value) (S : aS) (h : aH) : ev d 218 519 [.ref x, v1, v2, v3] st S h = ev d 218 520 [.ref x, v1, v2, v3] (.ref x :: st) S h := u_LdA rfl rfl d st S h
set_option maxRecDepth 50000 in
theorem u218_520 (d : Nat) (v0 v1 v2 : Value) (x : Int32) (st : List Value) (S : aS) (h : aH) : ev d 218 520 [v0, v1, v2, .int x] st S h = ev d 218 521 [v0, v1, v2, .int x] (.int x :: st) S h := u_LdI rfl rfl d st S h
set_option maxRecDepth 50000 in
theorem u218_521 (d : Nat) (ls st : List Value) (S : aS) (h : aH) : ev d 218 521 ls st S h = ev d 218 522 ls (.int 4 :: st) S h := u_Push rfl d ls st S h
set_option maxRecDepth 50000 in
theorem u218_522 (d : Nat) (ls : List Value) (y x : Int32) (st : List Value) (S : aS) (h : aH) : ev d 218 522 ls (.int y :: .int x :: st) S h = ev d 218 523 ls (.int (x + y) :: st) S h := u_II (f := fun x y => x + y) rfl d ls y x st S h
set_option maxRecDepth 50000 in
theorem u218_523 (d : Nat) (ls : List Value) (i : Int32) (c : Nat) (st : List Value) (S : aS) (h : aH) : ev d 218 523 ls (.int i :: .ref c :: st) S h = gd (aK S c = 100 ∨ aK S c = 200) (gd (inB i (aL S c)) (ev d 218 524 ls (.int (h.1 c i.toNatClampNeg) :: st) S h)) := u_ALdI rfl d ls i c st S h
set_option maxRecDepth 50000 in
theorem u218_524 (d : Nat) (ls : List Value) (a0 a1 a2 a3 : Value) (c : Nat) (st : List Value) (S : aS) (h : aH) : ev (d + 1) 218 524 ls (a0 :: a1 :: a2 :: a3 :: .ref c :: st) S h = gd (aK S c = 10) (gd (cs st ≤ 8) ((call d 91 [.ref c, a3, a2, a1, a0] S h).bind fun r => ev (d + 1) 218 527 ls (r.1.toList ++ st) r.2.1 r.2.2)) := u_CalV1 (as := [a0, a1, a2, a3]) rfl rfl d ls c st S h
set_option maxRecDepth 50000 in
theorem u218_527 (d : Nat) (v0 v1 v3 : Value) (x : Nat) (st : List Value) (S : aS) (h : aH) : ev d 218 527 [v0, v1, .ref x, v3] st S h = ev d 218 528 [v0, v1, .ref x, v3] (.ref x :: st) S h := u_LdA rfl rfl d st S h
set_option maxRecDepth 50000 in
theorem u218_528 (d : Nat) (v1 v2 v3 : Value) (x : Nat) (st : List Value) (S : aS) (h : aH) : ev d 218 528 [.ref x, v1, v2, v3] st S h = ev d 218 529 [.ref x, v1, v2, v3] (.ref x :: st) S h := u_LdA rfl rfl d st S h
set_option maxRecDepth 50000 in
theorem u218_529 (d : Nat) (v0 v1 v2 : Value) (x : Int32) (st : List Value) (S : aS) (h : aH) : ev d 218 529 [v0, v1, v2, .int x] st S h = ev d 218 530 [v0, v1, v2, .int x] (.int x :: st) S h := u_LdI rfl rfl d st S h
set_option maxRecDepth 50000 in
theorem u218_530 (d : Nat) (ls st : List Value) (S : aS) (h : aH) : ev d 218 530 ls st S h = ev d 218 531 ls (.int 1 :: st) S h := u_Push rfl d ls st S h
set_option maxRecDepth 50000 in
theorem u218_531 (d : Nat) (ls : List Value) (y x : Int32) (st : List Value) (S : aS) (h : aH) : ev d 218 531 ls (.int y :: .int x :: st) S h = ev d 218 532 ls (.int (x + y) :: st) S h := u_II (f := fun x y => x + y) rfl d ls y x st S h
set_option maxRecDepth 50000 in
theorem u218_532 (d : Nat) (ls : List Value) (i : Int32) (c : Nat) (st : List Value) (S : aS) (h : aH) : ev d 218 532 ls (.int i :: .ref c :: st) S h = gd (aK S c = 100 ∨ aK S c = 200) (gd (inB i (aL S c)) (ev d 218 533 ls (.int (h.1 c i.toNatClampNeg) :: st) S h)) := u_ALdI rfl d ls i c st S h
set_option maxRecDepth 50000 in
theorem u218_533 (d : Nat) (v1 v2 v3 : Value) (x : Nat) (st : List Value) (S : aS) (h : aH) : ev d 218 533 [.ref x, v1, v2, v3] st S h = ev d 218 534 [.ref x, v1, v2, v3] (.ref x :: st) S h := u_LdA rfl rfl d st S h
set_option maxRecDepth 50000 in
theorem u218_534 (d : Nat) (v0 v1 v2 : Value) (x : Int32) (st : List Value) (S : aS) (h : aH) : ev d 218 534 [v0, v1, v2, .int x] st S h = ev d 218 535 [v0, v1, v2, .int x] (.int x :: st) S h := u_LdI rfl rfl d st S h
set_option maxRecDepth 50000 in
theorem u218_535 (d : Nat) (ls st : List Value) (S : aS) (h : aH) : ev d 218 535 ls st S h = ev d 218 536 ls (.int 2 :: st) S h := u_Push rfl d ls st S h
set_option maxRecDepth 50000 in
theorem u218_536 (d : Nat) (ls : List Value) (y x : Int32) (st : List Value) (S : aS) (h : aH) : ev d 218 536 ls (.int y :: .int x :: st) S h = ev d 218 537 ls (.int (x + y) :: st) S h := u_II (f := fun x y => x + y) rfl d ls y x st S h
set_option maxRecDepth 50000 in
theorem u218_537 (d : Nat) (ls : List Value) (i : Int32) (c : Nat) (st : List Value) (S : aS) (h : aH) : ev d 218 537 ls (.int i :: .ref c :: st) S h = gd (aK S c = 100 ∨ aK S c = 200) (gd (inB i (aL S c)) (ev d 218 538 ls (.int (h.1 c i.toNatClampNeg) :: st) S h)) := u_ALdI rfl d ls i c st S h
set_option maxRecDepth 50000 in
theorem u218_538 (d : Nat) (v1 v2 v3 : Value) (x : Nat) (st : List Value) (S : aS) (h : aH) : ev d 218 538 [.ref x, v1, v2, v3] st S h = ev d 218 539 [.ref x, v1, v2, v3] (.ref x :: st) S h := u_LdA rfl rfl d st S h
set_option maxRecDepth 50000 in
theorem u218_539 (d : Nat) (v0 v1 v2 : Value) (x : Int32) (st : List Value) (S : aS) (h : aH) : ev d 218 539 [v0, v1, v2, .int x] st S h = ev d 218 540 [v0, v1, v2, .int x] (.int x :: st) S h := u_LdI rfl rfl d st S h
set_option maxRecDepth 50000 in
theorem u218_540 (d : Nat) (ls st : List Value) (S : aS) (h : aH) : ev d 218 540 ls st S h = ev d 218 541 ls (.int 3 :: st) S h := u_Push rfl d ls st S h
set_option maxRecDepth 50000 in
theorem u218_541 (d : Nat) (ls : List Value) (y x : Int32) (st : List Value) (S : aS) (h : aH) : ev d 218 541 ls (.int y :: .int x :: st) S h = ev d 218 542 ls (.int (x + y) :: st) S h := u_II (f := fun x y => x + y) rfl d ls y x st S h
set_option maxRecDepth 50000 in
theorem u218_542 (d : Nat) (ls : List Value) (i : Int32) (c : Nat) (st : List Value) (S : aS) (h : aH) : ev d 218 542 ls (.int i :: .ref c :: st) S h = gd (aK S c = 100 ∨ aK S c = 200) (gd (inB i (aL S c)) (ev d 218 543 ls (.int (h.1 c i.toNatClampNeg) :: st) S h)) := u_ALdI rfl d ls i c st S h
set_option maxRecDepth 50000 in
theorem u218_543 (d : Nat) (v1 v2 v3 : Value) (x : Nat) (st : List Value) (S : aS) (h : aH) : ev d 218 543 [.ref x, v1, v2, v3] st S h = ev d 218 544 [.ref x, v1, v2, v3] (.ref x :: st) S h := u_LdA rfl rfl d st S h
set_option maxRecDepth 50000 in
theorem u218_544 (d : Nat) (v0 v1 v2 : Value) (x : Int32) (st : List Value) (S : aS) (h : aH) : ev d 218 544 [v0, v1, v2, .int x] st S h = ev d 218 545 [v0, v1, v2, .int x] (.int x :: st) S h := u_LdI rfl rfl d st S h
set_option maxRecDepth 50000 in
theorem u218_545 (d : Nat) (ls st : List Value) (S : aS) (h : aH) : ev d 218 545 ls st S h = ev d 218 546 ls (.int 4 :: st) S h := u_Push rfl d ls st S h
set_option maxRecDepth 50000 in
theorem u218_546 (d : Nat) (ls : List Value) (y x : Int32) (st : List Value) (S : aS) (h : aH) : ev d 218 546 ls (.int y :: .int x :: st) S h = ev d 218 547 ls (.int (x + y) :: st) S h := u_II (f := fun x y => x + y) rfl d ls y x st S h
set_option maxRecDepth 50000 in
theorem u218_547 (d : Nat) (ls : List Value) (i : Int32) (c : Nat) (st : List Value) (S : aS) (h : aH) : ev d 218 547 ls (.int i :: .ref c :: st) S h = gd (aK S c = 100 ∨ aK S c = 200) (gd (inB i (aL S c)) (ev d 218 548 ls (.int (h.1 c i.toNatClampNeg) :: st) S h)) := u_ALdI rfl d ls i c st S h
set_option maxRecDepth 50000 in
theorem u218_548 (d : Nat) (ls : List Value) (a0 a1 a2 a3 : Value) (c : Nat) (st : List Value) (S : aS) (h : aH) : ev (d + 1) 218 548 ls (a0 :: a1 :: a2 :: a3 :: .ref c :: st) S h = gd (aK S c = 11) (gd (cs st ≤ 8) ((call d 176 [.ref c, a3, a2, a1, a0] S h).bind fun r => ev (d + 1) 218 551 ls (r.1.toList ++ st) r.2.1 r.2.2)) := u_CalV1 (as := [a0, a1, a2, a3]) rfl rfl d ls c st S h
set_option maxRecDepth 50000 in
theorem u218_551 (d : Nat) (ls : List Value) (y x : Int32) (st : List Value) (S : aS) (h : aH) : ev d 218 551 ls (.int y :: .int x :: st) S h = br (x = y) (ev d 218 1047 ls st S h) (ev d 218 554 ls st S h) := u_Ic (P := fun x y => x = y) rfl d ls y x st S h
set_option maxRecDepth 50000 in
theorem u218_554 (d : Nat) (ls st : List Value) (S : aS) (h : aH) : ev d 218 554 ls st S h = ev d 218 555 ls (.int 0 :: st) S h := u_Push rfl d ls st S h
set_option maxRecDepth 50000 in
theorem u218_555 (d : Nat) (ls : List Value) (x : Int32) (S : aS) (h : aH) : ev d 218 555 ls [.int x] S h = gd (vp_nar .boolean x = x) (some (some (.int x), S, h)) := u_RetN rfl d ls x S h
set_option maxRecDepth 50000 in
theorem u218_556 (d : Nat) (v0 v2 v3 : Value) (x : Nat) (st : List Value) (S : aS) (h : aH) : ev d 218 556 [v0, .ref x, v2, v3] st S h = ev d 218 557 [v0, .ref x, v2, v3] (.ref x :: st) S h := u_LdA rfl rfl d st S h
set_option maxRecDepth 50000 in
theorem u218_557 (d : Nat) (v1 v2 v3 : Value) (x : Nat) (st : List Value) (S : aS) (h : aH) : ev d 218 557 [.ref x, v1, v2, v3] st S h = ev d 218 558 [.ref x, v1, v2, v3] (.ref x :: st) S h := u_LdA rfl rfl d st S h
set_option maxRecDepth 50000 in
theorem u218_558 (d : Nat) (v0 v1 v2 : Value) (x : Int32) (st : List Value) (S : aS) (h : aH) : ev d 218 558 [v0, v1, v2, .int x] st S h = ev d 218 559 [v0, v1, v2, .int x] (.int x :: st) S h := u_LdI rfl rfl d st S h
set_option maxRecDepth 50000 in
theorem u218_559 (d : Nat) (ls st : List Value) (S : aS) (h : aH) : ev d 218 559 ls st S h = ev d 218 560 ls (.int 1 :: st) S h := u_Push rfl d ls st S h
set_option maxRecDepth 50000 in
theorem u218_560 (d : Nat) (ls : List Value) (y x : Int32) (st : List Value) (S : aS) (h : aH) : ev d 218 560 ls (.int y :: .int x :: st) S h = ev d 218 561 ls (.int (x + y) :: st) S h := u_II (f := fun x y => x + y) rfl d ls y x st S h
set_option maxRecDepth 50000 in
theorem u218_561 (d : Nat) (ls : List Value) (i : Int32) (c : Nat) (st : List Value) (S : aS) (h : aH) : ev d 218 561 ls (.int i :: .ref c :: st) S h = gd (aK S c = 100 ∨ aK S c = 200) (gd (inB i (aL S c)) (ev d 218 562 ls (.int (h.1 c i.toNatClampNeg) :: st) S h)) := u_ALdI rfl d ls i c st S h
set_option maxRecDepth 50000 in
theorem u218_562 (d : Nat) (ls : List Value) (a0 : Value) (c : Nat) (st : List Value) (S : aS) (h : aH) : ev (d + 1) 218 562 ls (a0 :: .ref c :: st) S h = gd (aK S c = 10) (gd (cs st ≤ 8) ((call d 92 [.ref c, a0] S h).bind fun r => ev (d + 1) 218 565 ls (r.1.toList ++ st) r.2.1 r.2.2)) := u_CalV1 (as := [a0]) rfl rfl d ls c st S h
set_option maxRecDepth 50000 in
theorem u218_565 (d : Nat) (v0 v1 v3 : Value) (x : Nat) (st : List Value) (S : aS) (h : aH) : ev d 218 565 [v0, v1, .ref x, v3] st S h = ev d 218 566 [v0, v1, .ref x, v3] (.ref x :: st) S h := u_LdA rfl rfl d st S h
set_option maxRecDepth 50000 in
theorem u218_566 (d : Nat) (v1 v2 v3 : Value) (x : Nat) (st : List Value) (S : aS) (h : aH) : ev d 218 566 [.ref x, v1, v2, v3] st S h = ev d 218 567 [.ref x, v1, v2, v3] (.ref x :: st) S h := u_LdA rfl rfl d st S h
set_option maxRecDepth 50000 in
theorem u218_567 (d : Nat) (v0 v1 v2 : Value) (x : Int32) (st : List Value) (S : aS) (h : aH) : ev d 218 567 [v0, v1, v2, .int x] st S h = ev d 218 568 [v0, v1, v2, .int x] (.int x :: st) S h := u_LdI rfl rfl d st S h
set_option maxRecDepth 50000 in
theorem u218_568 (d : Nat) (ls st : List Value) (S : aS) (h : aH) : ev d 218 568 ls st S h = ev d 218 569 ls (.int 1 :: st) S h := u_Push rfl d ls st S h
set_option maxRecDepth 50000 in
theorem u218_569 (d : Nat) (ls : List Value) (y x : Int32) (st : List Value) (S : aS) (h : aH) : ev d 218 569 ls (.int y :: .int x :: st) S h = ev d 218 570 ls (.int (x + y) :: st) S h := u_II (f := fun x y => x + y) rfl d ls y x st S h
set_option maxRecDepth 50000 in
theorem u218_570 (d : Nat) (ls : List Value) (i : Int32) (c : Nat) (st : List Value) (S : aS) (h : aH) : ev d 218 570 ls (.int i :: .ref c :: st) S h = gd (aK S c = 100 ∨ aK S c = 200) (gd (inB i (aL S c)) (ev d 218 571 ls (.int (h.1 c i.toNatClampNeg) :: st) S h)) := u_ALdI rfl d ls i c st S h
set_option maxRecDepth 50000 in
theorem u218_571 (d : Nat) (ls : List Value) (a0 : Value) (c : Nat) (st : List Value) (S : aS) (h : aH) : ev (d + 1) 218 571 ls (a0 :: .ref c :: st) S h = gd (aK S c = 11) (gd (cs st ≤ 8) ((call d 178 [.ref c, a0] S h).bind fun r => ev (d + 1) 218 574 ls (r.1.toList ++ st) r.2.1 r.2.2)) := u_CalV1 (as := [a0]) rfl rfl d ls c st S h
set_option maxRecDepth 50000 in
theorem u218_574 (d : Nat) (ls : List Value) (y x : Int32) (st : List Value) (S : aS) (h : aH) : ev d 218 574 ls (.int y :: .int x :: st) S h = br (x = y) (ev d 218 1047 ls st S h) (ev d 218 577 ls st S h) := u_Ic (P := fun x y => x = y) rfl d ls y x st S h
set_option maxRecDepth 50000 in
theorem u218_577 (d : Nat) (ls st : List Value) (S : aS) (h : aH) : ev d 218 577 ls st S h = ev d 218 578 ls (.int 0 :: st) S h := u_Push rfl d ls st S h
set_option maxRecDepth 50000 in
theorem u218_578 (d : Nat) (ls : List Value) (x : Int32) (S : aS) (h : aH) : ev d 218 578 ls [.int x] S h = gd (vp_nar .boolean x = x) (some (some (.int x), S, h)) := u_RetN rfl d ls x S h
set_option maxRecDepth 50000 in
theorem u218_579 (d : Nat) (v0 v2 v3 : Value) (x : Nat) (st : List Value) (S : aS) (h : aH) : ev d 218 579 [v0, .ref x, v2, v3] st S h = ev d 218 580 [v0, .ref x, v2, v3] (.ref x :: st) S h := u_LdA rfl rfl d st S h
set_option maxRecDepth 50000 in
theorem u218_580 (d : Nat) (v1 v2 v3 : Value) (x : Nat) (st : List Value) (S : aS) (h : aH) : ev d 218 580 [.ref x, v1, v2, v3] st S h = ev d 218 581 [.ref x, v1, v2, v3] (.ref x :: st) S h := u_LdA rfl rfl d st S h
set_option maxRecDepth 50000 in
theorem u218_581 (d : Nat) (v0 v1 v2 : Value) (x : Int32) (st : List Value) (S : aS) (h : aH) : ev d 218 581 [v0, v1, v2, .int x] st S h = ev d 218 582 [v0, v1, v2, .int x] (.int x :: st) S h := u_LdI rfl rfl d st S h
set_option maxRecDepth 50000 in
theorem u218_582 (d : Nat) (ls st : List Value) (S : aS) (h : aH) : ev d 218 582 ls st S h = ev d 218 583 ls (.int 1 :: st) S h := u_Push rfl d ls st S h
set_option maxRecDepth 50000 in
theorem u218_583 (d : Nat) (ls : List Value) (y x : Int32) (st : List Value) (S : aS) (h : aH) : ev d 218 583 ls (.int y :: .int x :: st) S h = ev d 218 584 ls (.int (x + y) :: st) S h := u_II (f := fun x y => x + y) rfl d ls y x st S h
set_option maxRecDepth 50000 in
theorem u218_584 (d : Nat) (ls : List Value) (i : Int32) (c : Nat) (st : List Value) (S : aS) (h : aH) : ev d 218 584 ls (.int i :: .ref c :: st) S h = gd (aK S c = 100 ∨ aK S c = 200) (gd (inB i (aL S c)) (ev d 218 585 ls (.int (h.1 c i.toNatClampNeg) :: st) S h)) := u_ALdI rfl d ls i c st S h
set_option maxRecDepth 50000 in
theorem u218_585 (d : Nat) (v1 v2 v3 : Value) (x : Nat) (st : List Value) (S : aS) (h : aH) : ev d 218 585 [.ref x, v1, v2, v3] st S h = ev d 218 586 [.ref x, v1, v2, v3] (.ref x :: st) S h := u_LdA rfl rfl d st S h
set_option maxRecDepth 50000 in
theorem u218_586 (d : Nat) (v0 v1 v2 : Value) (x : Int32) (st : List Value) (S : aS) (h : aH) : ev d 218 586 [v0, v1, v2, .int x] st S h = ev d 218 587 [v0, v1, v2, .int x] (.int x :: st) S h := u_LdI rfl rfl d st S h
set_option maxRecDepth 50000 in
theorem u218_587 (d : Nat) (ls st : List Value) (S : aS) (h : aH) : ev d 218 587 ls st S h = ev d 218 588 ls (.int 2 :: st) S h := u_Push rfl d ls st S h
set_option maxRecDepth 50000 in
theorem u218_588 (d : Nat) (ls : List Value) (y x : Int32) (st : List Value) (S : aS) (h : aH) : ev d 218 588 ls (.int y :: .int x :: st) S h = ev d 218 589 ls (.int (x + y) :: st) S h := u_II (f := fun x y => x + y) rfl d ls y x st S h
set_option maxRecDepth 50000 in
theorem u218_589 (d : Nat) (ls : List Value) (i : Int32) (c : Nat) (st : List Value) (S : aS) (h : aH) : ev d 218 589 ls (.int i :: .ref c :: st) S h = gd (aK S c = 100 ∨ aK S c = 200) (gd (inB i (aL S c)) (ev d 218 590 ls (.int (h.1 c i.toNatClampNeg) :: st) S h)) := u_ALdI rfl d ls i c st S h
set_option maxRecDepth 50000 in
theorem u218_590 (d : Nat) (ls : List Value) (a0 a1 : Value) (c : Nat) (st : List Value) (S : aS) (h : aH) : ev (d + 1) 218 590 ls (a0 :: a1 :: .ref c :: st) S h = gd (aK S c = 10) (gd (cs st ≤ 8) ((call d 93 [.ref c, a1, a0] S h).bind fun r => ev (d + 1) 218 593 ls (r.1.toList ++ st) r.2.1 r.2.2)) := u_CalV1 (as := [a0, a1]) rfl rfl d ls c st S h
set_option maxRecDepth 50000 in
theorem u218_593 (d : Nat) (v0 v1 v3 : Value) (x : Nat) (st : List Value) (S : aS) (h : aH) : ev d 218 593 [v0, v1, .ref x, v3] st S h = ev d 218 594 [v0, v1, .ref x, v3] (.ref x :: st) S h := u_LdA rfl rfl d st S h
set_option maxRecDepth 50000 in
theorem u218_594 (d : Nat) (v1 v2 v3 : Value) (x : Nat) (st : List Value) (S : aS) (h : aH) : ev d 218 594 [.ref x, v1, v2, v3] st S h = ev d 218 595 [.ref x, v1, v2, v3] (.ref x :: st) S h := u_LdA rfl rfl d st S h
set_option maxRecDepth 50000 in
theorem u218_595 (d : Nat) (v0 v1 v2 : Value) (x : Int32) (st : List Value) (S : aS) (h : aH) : ev d 218 595 [v0, v1, v2, .int x] st S h = ev d 218 596 [v0, v1, v2, .int x] (.int x :: st) S h := u_LdI rfl rfl d st S h
set_option maxRecDepth 50000 in
theorem u218_596 (d : Nat) (ls st : List Value) (S : aS) (h : aH) : ev d 218 596 ls st S h = ev d 218 597 ls (.int 1 :: st) S h := u_Push rfl d ls st S h
set_option maxRecDepth 50000 in
theorem u218_597 (d : Nat) (ls : List Value) (y x : Int32) (st : List Value) (S : aS) (h : aH) : ev d 218 597 ls (.int y :: .int x :: st) S h = ev d 218 598 ls (.int (x + y) :: st) S h := u_II (f := fun x y => x + y) rfl d ls y x st S h
set_option maxRecDepth 50000 in
theorem u218_598 (d : Nat) (ls : List Value) (i : Int32) (c : Nat) (st : List Value) (S : aS) (h : aH) : ev d 218 598 ls (.int i :: .ref c :: st) S h = gd (aK S c = 100 ∨ aK S c = 200) (gd (inB i (aL S c)) (ev d 218 599 ls (.int (h.1 c i.toNatClampNeg) :: st) S h)) := u_ALdI rfl d ls i c st S h
set_option maxRecDepth 50000 in
theorem u218_599 (d : Nat) (v1 v2 v3 : Value) (x : Nat) (st : List Value) (S : aS) (h : aH) : ev d 218 599 [.ref x, v1, v2, v3] st S h = ev d 218 600 [.ref x, v1, v2, v3] (.ref x :: st) S h := u_LdA rfl rfl d st S h
set_option maxRecDepth 50000 in
theorem u218_600 (d : Nat) (v0 v1 v2 : Value) (x : Int32) (st : List Value) (S : aS) (h : aH) : ev d 218 600 [v0, v1, v2, .int x] st S h = ev d 218 601 [v0, v1, v2, .int x] (.int x :: st) S h := u_LdI rfl rfl d st S h
set_option maxRecDepth 50000 in
theorem u218_601 (d : Nat) (ls st : List Value) (S : aS) (h : aH) : ev d 218 601 ls st S h = ev d 218 602 ls (.int 2 :: st) S h := u_Push rfl d ls st S h
set_option maxRecDepth 50000 in
theorem u218_602 (d : Nat) (ls : List Value) (y x : Int32) (st : List Value) (S : aS) (h : aH) : ev d 218 602 ls (.int y :: .int x :: st) S h = ev d 218 603 ls (.int (x + y) :: st) S h := u_II (f := fun x y => x + y) rfl d ls y x st S h
set_option maxRecDepth 50000 in
theorem u218_603 (d : Nat) (ls : List Value) (i : Int32) (c : Nat) (st : List Value) (S : aS) (h : aH) : ev d 218 603 ls (.int i :: .ref c :: st) S h = gd (aK S c = 100 ∨ aK S c = 200) (gd (inB i (aL S c)) (ev d 218 604 ls (.int (h.1 c i.toNatClampNeg) :: st) S h)) := u_ALdI rfl d ls i c st S h
set_option maxRecDepth 50000 in
theorem u218_604 (d : Nat) (ls : List Value) (a0 a1 : Value) (c : Nat) (st : List Value) (S : aS) (h : aH) : ev (d + 1) 218 604 ls (a0 :: a1 :: .ref c :: st) S h = gd (aK S c = 11) (gd (cs st ≤ 8) ((call d 179 [.ref c, a1, a0] S h).bind fun r => ev (d + 1) 218 607 ls (r.1.toList ++ st) r.2.1 r.2.2)) := u_CalV1 (as := [a0, a1]) rfl rfl d ls c st S h
set_option maxRecDepth 50000 in
theorem u218_607 (d : Nat) (ls : List Value) (y x : Int32) (st : List Value) (S : aS) (h : aH) : ev d 218 607 ls (.int y :: .int x :: st) S h = br (x = y) (ev d 218 1047 ls st S h) (ev d 218 610 ls st S h) := u_Ic (P := fun x y => x = y) rfl d ls y x st S h
set_option maxRecDepth 50000 in
theorem u218_610 (d : Nat) (ls st : List Value) (S : aS) (h : aH) : ev d 218 610 ls st S h = ev d 218 611 ls (.int 0 :: st) S h := u_Push rfl d ls st S h
set_option maxRecDepth 50000 in
theorem u218_611 (d : Nat) (ls : List Value) (x : Int32) (S : aS) (h : aH) : ev d 218 611 ls [.int x] S h = gd (vp_nar .boolean x = x) (some (some (.int x), S, h)) := u_RetN rfl d ls x S h
set_option maxRecDepth 50000 in
theorem u218_612 (d : Nat) (v0 v2 v3 : Value) (x : Nat) (st : List Value) (S : aS) (h : aH) : ev d 218 612 [v0, .ref x, v2, v3] st S h = ev d 218 613 [v0, .ref x, v2, v3] (.ref x :: st) S h := u_LdA rfl rfl d st S h
set_option maxRecDepth 50000 in
theorem u218_613 (d : Nat) (v1 v2 v3 : Value) (x : Nat) (st : List Value) (S : aS) (h : aH) : ev d 218 613 [.ref x, v1, v2, v3] st S h = ev d 218 614 [.ref x, v1, v2, v3] (.ref x :: st) S h := u_LdA rfl rfl d st S h
set_option maxRecDepth 50000 in
theorem u218_614 (d : Nat) (v0 v1 v2 : Value) (x : Int32) (st : List Value) (S : aS) (h : aH) : ev d 218 614 [v0, v1, v2, .int x] st S h = ev d 218 615 [v0, v1, v2, .int x] (.int x :: st) S h := u_LdI rfl rfl d st S h
set_option maxRecDepth 50000 in
theorem u218_615 (d : Nat) (ls st : List Value) (S : aS) (h : aH) : ev d 218 615 ls st S h = ev d 218 616 ls (.int 1 :: st) S h := u_Push rfl d ls st S h
set_option maxRecDepth 50000 in
theorem u218_616 (d : Nat) (ls : List Value) (y x : Int32) (st : List Value) (S : aS) (h : aH) : ev d 218 616 ls (.int y :: .int x :: st) S h = ev d 218 617 ls (.int (x + y) :: st) S h := u_II (f := fun x y => x + y) rfl d ls y x st S h
set_option maxRecDepth 50000 in
theorem u218_617 (d : Nat) (ls : List Value) (i : Int32) (c : Nat) (st : List Value) (S : aS) (h : aH) : ev d 218 617 ls (.int i :: .ref c :: st) S h = gd (aK S c = 100 ∨ aK S c = 200) (gd (inB i (aL S c)) (ev d 218 618 ls (.int (h.1 c i.toNatClampNeg) :: st) S h)) := u_ALdI rfl d ls i c st S h
set_option maxRecDepth 50000 in
theorem u218_618 (d : Nat) (ls : List Value) (a0 : Value) (c : Nat) (st : List Value) (S : aS) (h : aH) : ev (d + 1) 218 618 ls (a0 :: .ref c :: st) S h = gd (aK S c = 10) (gd (cs st ≤ 8) ((call d 94 [.ref c, a0] S h).bind fun r => ev (d + 1) 218 621 ls (r.1.toList ++ st) r.2.1 r.2.2)) := u_CalV1 (as := [a0]) rfl rfl d ls c st S h
set_option maxRecDepth 50000 in
theorem u218_621 (d : Nat) (v0 v1 v3 : Value) (x : Nat) (st : List Value) (S : aS) (h : aH) : ev d 218 621 [v0, v1, .ref x, v3] st S h = ev d 218 622 [v0, v1, .ref x, v3] (.ref x :: st) S h := u_LdA rfl rfl d st S h
set_option maxRecDepth 50000 in
theorem u218_622 (d : Nat) (v1 v2 v3 : Value) (x : Nat) (st : List Value) (S : aS) (h : aH) : ev d 218 622 [.ref x, v1, v2, v3] st S h = ev d 218 623 [.ref x, v1, v2, v3] (.ref x :: st) S h := u_LdA rfl rfl d st S h
set_option maxRecDepth 50000 in
theorem u218_623 (d : Nat) (v0 v1 v2 : Value) (x : Int32) (st : List Value) (S : aS) (h : aH) : ev d 218 623 [v0, v1, v2, .int x] st S h = ev d 218 624 [v0, v1, v2, .int x] (.int x :: st) S h := u_LdI rfl rfl d st S h
set_option maxRecDepth 50000 in
theorem u218_624 (d : Nat) (ls st : List Value) (S : aS) (h : aH) : ev d 218 624 ls st S h = ev d 218 625 ls (.int 1 :: st) S h := u_Push rfl d ls st S h
set_option maxRecDepth 50000 in
theorem u218_625 (d : Nat) (ls : List Value) (y x : Int32) (st : List Value) (S : aS) (h : aH) : ev d 218 625 ls (.int y :: .int x :: st) S h = ev d 218 626 ls (.int (x + y) :: st) S h := u_II (f := fun x y => x + y) rfl d ls y x st S h
set_option maxRecDepth 50000 in
theorem u218_626 (d : Nat) (ls : List Value) (i : Int32) (c : Nat) (st : List Value) (S : aS) (h : aH) : ev d 218 626 ls (.int i :: .ref c :: st) S h = gd (aK S c = 100 ∨ aK S c = 200) (gd (inB i (aL S c)) (ev d 218 627 ls (.int (h.1 c i.toNatClampNeg) :: st) S h)) := u_ALdI rfl d ls i c st S h
set_option maxRecDepth 50000 in
theorem u218_627 (d : Nat) (ls : List Value) (a0 : Value) (c : Nat) (st : List Value) (S : aS) (h : aH) : ev (d + 1) 218 627 ls (a0 :: .ref c :: st) S h = gd (aK S c = 11) (gd (cs st ≤ 8) ((call d 180 [.ref c, a0] S h).bind fun r => ev (d + 1) 218 630 ls (r.1.toList ++ st) r.2.1 r.2.2)) := u_CalV1 (as := [a0]) rfl rfl d ls c st S h
set_option maxRecDepth 50000 in
theorem u218_630 (d : Nat) (ls : List Value) (y x : Int32) (st : List Value) (S : aS) (h : aH) : ev d 218 630 ls (.int y :: .int x :: st) S h = br (x = y) (ev d 218 1047 ls st S h) (ev d 218 633 ls st S h) := u_Ic (P := fun x y => x = y) rfl d ls y x st S h
set_option maxRecDepth 50000 in
theorem u218_633 (d : Nat) (ls st : List Value) (S : aS) (h : aH) : ev d 218 633 ls st S h = ev d 218 634 ls (.int 0 :: st) S h := u_Push rfl d ls st S h
set_option maxRecDepth 50000 in
theorem u218_634 (d : Nat) (ls : List Value) (x : Int32) (S : aS) (h : aH) : ev d 218 634 ls [.int x] S h = gd (vp_nar .boolean x = x) (some (some (.int x), S, h)) := u_RetN rfl d ls x S h
set_option maxRecDepth 50000 in
theorem u218_635 (d : Nat) (v0 v2 v3 : Value) (x : Nat) (st : List Value) (S : aS) (h : aH) : ev d 218 635 [v0, .ref x, v2, v3] st S h = ev d 218 636 [v0, .ref x, v2, v3] (.ref x :: st) S h := u_LdA rfl rfl d st S h
set_option maxRecDepth 50000 in
theorem u218_636 (d : Nat) (v1 v2 v3 : Value) (x : Nat) (st : List Value) (S : aS) (h : aH) : ev d 218 636 [.ref x, v1, v2, v3] st S h = ev d 218 637 [.ref x, v1, v2, v3] (.ref x :: st) S h := u_LdA rfl rfl d st S h
set_option maxRecDepth 50000 in
theorem u218_637 (d : Nat) (v0 v1 v2 : Value) (x : Int32) (st : List Value) (S : aS) (h : aH) : ev d 218 637 [v0, v1, v2, .int x] st S h = ev d 218 638 [v0, v1, v2, .int x] (.int x :: st) S h := u_LdI rfl rfl d st S h
set_option maxRecDepth 50000 in
theorem u218_638 (d : Nat) (ls st : List Value) (S : aS) (h : aH) : ev d 218 638 ls st S h = ev d 218 639 ls (.int 1 :: st) S h := u_Push rfl d ls st S h
set_option maxRecDepth 50000 in
theorem u218_639 (d : Nat) (ls : List Value) (y x : Int32) (st : List Value) (S : aS) (h : aH) : ev d 218 639 ls (.int y :: .int x :: st) S h = ev d 218 640 ls (.int (x + y) :: st) S h := u_II (f := fun x y => x + y) rfl d ls y x st S h
set_option maxRecDepth 50000 in
theorem u218_640 (d : Nat) (ls : List Value) (i : Int32) (c : Nat) (st : List Value) (S : aS) (h : aH) : ev d 218 640 ls (.int i :: .ref c :: st) S h = gd (aK S c = 100 ∨ aK S c = 200) (gd (inB i (aL S c)) (ev d 218 641 ls (.int (h.1 c i.toNatClampNeg) :: st) S h)) := u_ALdI rfl d ls i c st S h
set_option maxRecDepth 50000 in
theorem u218_641 (d : Nat) (v1 v2 v3 : Value) (x : Nat) (st : List Value) (S : aS) (h : aH) : ev d 218 641 [.ref x, v1, v2, v3] st S h = ev d 218 642 [.ref x, v1, v2, v3] (.ref x :: st) S h := u_LdA rfl rfl d st S h
set_option maxRecDepth 50000 in
theorem u218_642 (d : Nat) (v0 v1 v2 : Value) (x : Int32) (st : List Value) (S : aS) (h : aH) : ev d 218 642 [v0, v1, v2, .int x] st S h = ev d 218 643 [v0, v1, v2, .int x] (.int x :: st) S h := u_LdI rfl rfl d st S h
set_option maxRecDepth 50000 in
theorem u218_643 (d : Nat) (ls st : List Value) (S : aS) (h : aH) : ev d 218 643 ls st S h = ev d 218 644 ls (.int 2 :: st) S h := u_Push rfl d ls st S h
set_option maxRecDepth 50000 in
theorem u218_644 (d : Nat) (ls : List Value) (y x : Int32) (st : List Value) (S : aS) (h : aH) : ev d 218 644 ls (.int y :: .int x :: st) S h = ev d 218 645 ls (.int (x + y) :: st) S h := u_II (f := fun x y => x + y) rfl d ls y x st S h
set_option maxRecDepth 50000 in
theorem u218_645 (d : Nat) (ls : List Value) (i : Int32) (c : Nat) (st : List Value) (S : aS) (h : aH) : ev d 218 645 ls (.int i :: .ref c :: st) S h = gd (aK S c = 100 ∨ aK S c = 200) (gd (inB i (aL S c)) (ev d 218 646 ls (.int (h.1 c i.toNatClampNeg) :: st) S h)) := u_ALdI rfl d ls i c st S h
set_option maxRecDepth 50000 in
theorem u218_646 (d : Nat) (v1 v2 v3 : Value) (x : Nat) (st : List Value) (S : aS) (h : aH) : ev d 218 646 [.ref x, v1, v2, v3] st S h = ev d 218 647 [.ref x, v1, v2, v3] (.ref x :: st) S h := u_LdA rfl rfl d st S h
set_option maxRecDepth 50000 in
theorem u218_647 (d : Nat) (v0 v1 v2 : Value) (x : Int32) (st : List Value) (S : aS) (h : aH) : ev d 218 647 [v0, v1, v2, .int x] st S h = ev d 218 648 [v0, v1, v2, .int x] (.int x :: st) S h := u_LdI rfl rfl d st S h
set_option maxRecDepth 50000 in
theorem u218_648 (d : Nat) (ls st : List Value) (S : aS) (h : aH) : ev d 218 648 ls st S h = ev d 218 649 ls (.int 3 :: st) S h := u_Push rfl d ls st S h
set_option maxRecDepth 50000 in
theorem u218_649 (d : Nat) (ls : List Value) (y x : Int32) (st : List Value) (S : aS) (h : aH) : ev d 218 649 ls (.int y :: .int x :: st) S h = ev d 218 650 ls (.int (x + y) :: st) S h := u_II (f := fun x y => x + y) rfl d ls y x st S h
set_option maxRecDepth 50000 in
theorem u218_650 (d : Nat) (ls : List Value) (i : Int32) (c : Nat) (st : List Value) (S : aS) (h : aH) : ev d 218 650 ls (.int i :: .ref c :: st) S h = gd (aK S c = 100 ∨ aK S c = 200) (gd (inB i (aL S c)) (ev d 218 651 ls (.int (h.1 c i.toNatClampNeg) :: st) S h)) := u_ALdI rfl d ls i c st S h
set_option maxRecDepth 50000 in
theorem u218_651 (d : Nat) (ls : List Value) (a0 a1 a2 : Value) (c : Nat) (st : List Value) (S : aS) (h : aH) : ev (d + 1) 218 651 ls (a0 :: a1 :: a2 :: .ref c :: st) S h = gd (aK S c = 10) (gd (cs st ≤ 8) ((call d 95 [.ref c, a2, a1, a0] S h).bind fun r => ev (d + 1) 218 654 ls (r.1.toList ++ st) r.2.1 r.2.2)) := u_CalV1 (as := [a0, a1, a2]) rfl rfl d ls c st S h
set_option maxRecDepth 50000 in
theorem u218_654 (d : Nat) (v0 v1 v3 : Value) (x : Nat) (st : List Value) (S : aS) (h : aH) : ev d 218 654 [v0, v1, .ref x, v3] st S h = ev d 218 655 [v0, v1, .ref x, v3] (.ref x :: st) S h := u_LdA rfl rfl d st S h
set_option maxRecDepth 50000 in
theorem u218_655 (d : Nat) (v1 v2 v3 : Value) (x : Nat) (st : List Value) (S : aS) (h : aH) : ev d 218 655 [.ref x, v1, v2, v3] st S h = ev d 218 656 [.ref x, v1, v2, v3] (.ref x :: st) S h := u_LdA rfl rfl d st S h
set_option maxRecDepth 50000 in
theorem u218_656 (d : Nat) (v0 v1 v2 : Value) (x : Int32) (st : List Value) (S : aS) (h : aH) : ev d 218 656 [v0, v1, v2, .int x] st S h = ev d 218 657 [v0, v1, v2, .int x] (.int x :: st) S h := u_LdI rfl rfl d st S h
set_option maxRecDepth 50000 in
theorem u218_657 (d : Nat) (ls st : List Value) (S : aS) (h : aH) : ev d 218 657 ls st S h = ev d 218 658 ls (.int 1 :: st) S h := u_Push rfl d ls st S h
set_option maxRecDepth 50000 in
theorem u218_658 (d : Nat) (ls : List Value) (y x : Int32) (st : List Value) (S : aS) (h : aH) : ev d 218 658 ls (.int y :: .int x :: st) S h = ev d 218 659 ls (.int (x + y) :: st) S h := u_II (f := fun x y => x + y) rfl d ls y x st S h
set_option maxRecDepth 50000 in
theorem u218_659 (d : Nat) (ls : List Value) (i : Int32) (c : Nat) (st : List Value) (S : aS) (h : aH) : ev d 218 659 ls (.int i :: .ref c :: st) S h = gd (aK S c = 100 ∨ aK S c = 200) (gd (inB i (aL S c)) (ev d 218 660 ls (.int (h.1 c i.toNatClampNeg) :: st) S h)) := u_ALdI rfl d ls i c st S h
set_option maxRecDepth 50000 in
theorem u218_660 (d : Nat) (v1 v2 v3 : Value) (x : Nat) (st : List Value) (S : aS) (h : aH) : ev d 218 660 [.ref x, v1, v2, v3] st S h = ev d 218 661 [.ref x, v1, v2, v3] (.ref x :: st) S h := u_LdA rfl rfl d st S h
set_option maxRecDepth 50000 in
theorem u218_661 (d : Nat) (v0 v1 v2 : Value) (x : Int32) (st : List Value) (S : aS) (h : aH) : ev d 218 661 [v0, v1, v2, .int x] st S h = ev d 218 662 [v0, v1, v2, .int x] (.int x :: st) S h := u_LdI rfl rfl d st S h
set_option maxRecDepth 50000 in
theorem u218_662 (d : Nat) (ls st : List Value) (S : aS) (h : aH) : ev d 218 662 ls st S h = ev d 218 663 ls (.int 2 :: st) S h := u_Push rfl d ls st S h
set_option maxRecDepth 50000 in
theorem u218_663 (d : Nat) (ls : List Value) (y x : Int32) (st : List Value) (S : aS) (h : aH) : ev d 218 663 ls (.int y :: .int x :: st) S h = ev d 218 664 ls (.int (x + y) :: st) S h := u_II (f := fun x y => x + y) rfl d ls y x st S h
set_option maxRecDepth 50000 in
theorem u218_664 (d : Nat) (ls : List Value) (i : Int32) (c : Nat) (st : List Value) (S : aS) (h : aH) : ev d 218 664 ls (.int i :: .ref c :: st) S h = gd (aK S c = 100 ∨ aK S c = 200) (gd (inB i (aL S c)) (ev d 218 665 ls (.int (h.1 c i.toNatClampNeg) :: st) S h)) := u_ALdI rfl d ls i c st S h
set_option maxRecDepth 50000 in
theorem u218_665 (d : Nat) (v1 v2 v3 : Value) (x : Nat) (st : List Value) (S : aS) (h : aH) : ev d 218 665 [.ref x, v1, v2, v3] st S h = ev d 218 666 [.ref x, v1, v2, v3] (.ref x :: st) S h := u_LdA rfl rfl d st S h
set_option maxRecDepth 50000 in
theorem u218_666 (d : Nat) (v0 v1 v2 : Value) (x : Int32) (st : List Value) (S : aS) (h : aH) : ev d 218 666 [v0, v1, v2, .int x] st S h = ev d 218 667 [v0, v1, v2, .int x] (.int x :: st) S h := u_LdI rfl rfl d st S h
set_option maxRecDepth 50000 in
theorem u218_667 (d : Nat) (ls st : List Value) (S : aS) (h : aH) : ev d 218 667 ls st S h = ev d 218 668 ls (.int 3 :: st) S h := u_Push rfl d ls st S h
set_option maxRecDepth 50000 in
theorem u218_668 (d : Nat) (ls : List Value) (y x : Int32) (st : List Value) (S : aS) (h : aH) : ev d 218 668 ls (.int y :: .int x :: st) S h = ev d 218 669 ls (.int (x + y) :: st) S h := u_II (f := fun x y => x + y) rfl d ls y x st S h
set_option maxRecDepth 50000 in
theorem u218_669 (d : Nat) (ls : List Value) (i : Int32) (c : Nat) (st : List Value) (S : aS) (h : aH) : ev d 218 669 ls (.int i :: .ref c :: st) S h = gd (aK S c = 100 ∨ aK S c = 200) (gd (inB i (aL S c)) (ev d 218 670 ls (.int (h.1 c i.toNatClampNeg) :: st) S h)) := u_ALdI rfl d ls i c st S h
set_option maxRecDepth 50000 in
theorem u218_670 (d : Nat) (ls : List Value) (a0 a1 a2 : Value) (c : Nat) (st : List Value) (S : aS) (h : aH) : ev (d + 1) 218 670 ls (a0 :: a1 :: a2 :: .ref c :: st) S h = gd (aK S c = 11) (gd (cs st ≤ 8) ((call d 187 [.ref c, a2, a1, a0] S h).bind fun r => ev (d + 1) 218 673 ls (r.1.toList ++ st) r.2.1 r.2.2)) := u_CalV1 (as := [a0, a1, a2]) rfl rfl d ls c st S h
set_option maxRecDepth 50000 in
theorem u218_673 (d : Nat) (ls : List Value) (y x : Int32) (st : List Value) (S : aS) (h : aH) : ev d 218 673 ls (.int y :: .int x :: st) S h = br (x = y) (ev d 218 1047 ls st S h) (ev d 218 676 ls st S h) := u_Ic (P := fun x y => x = y) rfl d ls y x st S h
set_option maxRecDepth 50000 in
theorem u218_676 (d : Nat) (ls st : List Value) (S : aS) (h : aH) : ev d 218 676 ls st S h = ev d 218 677 ls (.int 0 :: st) S h := u_Push rfl d ls st S h
set_option maxRecDepth 50000 in
theorem u218_677 (d : Nat) (ls : List Value) (x : Int32) (S : aS) (h : aH) : ev d 218 677 ls [.int x] S h = gd (vp_nar .boolean x = x) (some (some (.int x), S, h)) := u_RetN rfl d ls x S h
set_option maxRecDepth 50000 in
theorem u218_678 (d : Nat) (v0 v2 v3 : Value) (x : Nat) (st : List Value) (S : aS) (h : aH) : ev d 218 678 [v0, .ref x, v2, v3] st S h = ev d 218 679 [v0, .ref x, v2, v3] (.ref x :: st) S h := u_LdA rfl rfl d st S h
set_option maxRecDepth 50000 in
theorem u218_679 (d : Nat) (v1 v2 v3 : Value) (x : Nat) (st : List Value) (S : aS) (h : aH) : ev d 218 679 [.ref x, v1, v2, v3] st S h = ev d 218 680 [.ref x, v1, v2, v3] (.ref x :: st) S h := u_LdA rfl rfl d st S h
set_option maxRecDepth 50000 in
theorem u218_680 (d : Nat) (v0 v1 v2 : Value) (x : Int32) (st : List Value) (S : aS) (h : aH) : ev d 218 680 [v0, v1, v2, .int x] st S h = ev d 218 681 [v0, v1, v2, .int x] (.int x :: st) S h := u_LdI rfl rfl d st S h
set_option maxRecDepth 50000 in
theorem u218_681 (d : Nat) (ls st : List Value) (S : aS) (h : aH) : ev d 218 681 ls st S h = ev d 218 682 ls (.int 1 :: st) S h := u_Push rfl d ls st S h
set_option maxRecDepth 50000 in
theorem u218_682 (d : Nat) (ls : List Value) (y x : Int32) (st : List Value) (S : aS) (h : aH) : ev d 218 682 ls (.int y :: .int x :: st) S h = ev d 218 683 ls (.int (x + y) :: st) S h := u_II (f := fun x y => x + y) rfl d ls y x st S h
set_option maxRecDepth 50000 in
theorem u218_683 (d : Nat) (ls : List Value) (i : Int32) (c : Nat) (st : List Value) (S : aS) (h : aH) : ev d 218 683 ls (.int i :: .ref c :: st) S h = gd (aK S c = 100 ∨ aK S c = 200) (gd (inB i (aL S c)) (ev d 218 684 ls (.int (h.1 c i.toNatClampNeg) :: st) S h)) := u_ALdI rfl d ls i c st S h
set_option maxRecDepth 50000 in
theorem u218_684 (d : Nat) (ls : List Value) (a0 : Value) (c : Nat) (st : List Value) (S : aS) (h : aH) : ev (d + 1) 218 684 ls (a0 :: .ref c :: st) S h = gd (aK S c = 10) (gd (cs st ≤ 8) ((call d 96 [.ref c, a0] S h).bind fun r => ev (d + 1) 218 687 ls (r.1.toList ++ st) r.2.1 r.2.2)) := u_CalV1 (as := [a0]) rfl rfl d ls c st S h
set_option maxRecDepth 50000 in
theorem u218_687 (d : Nat) (v0 v1 v3 : Value) (x : Nat) (st : List Value) (S : aS) (h : aH) : ev d 218 687 [v0, v1, .ref x, v3] st S h = ev d 218 688 [v0, v1, .ref x, v3] (.ref x :: st) S h := u_LdA rfl rfl d st S h
set_option maxRecDepth 50000 in
theorem u218_688 (d : Nat) (v1 v2 v3 : Value) (x : Nat) (st : List Value) (S : aS) (h : aH) : ev d 218 688 [.ref x, v1, v2, v3] st S h = ev d 218 689 [.ref x, v1, v2, v3] (.ref x :: st) S h := u_LdA rfl rfl d st S h
set_option maxRecDepth 50000 in
theorem u218_689 (d : Nat) (v0 v1 v2 : Value) (x : Int32) (st : List Value) (S : aS) (h : aH) : ev d 218 689 [v0, v1, v2, .int x] st S h = ev d 218 690 [v0, v1, v2, .int x] (.int x :: st) S h := u_LdI rfl rfl d st S h
set_option maxRecDepth 50000 in
theorem u218_690 (d : Nat) (ls st : List Value) (S : aS) (h : aH) : ev d 218 690 ls st S h = ev d 218 691 ls (.int 1 :: st) S h := u_Push rfl d ls st S h
set_option maxRecDepth 50000 in
theorem u218_691 (d : Nat) (ls : List Value) (y x : Int32) (st : List Value) (S : aS) (h : aH) : ev d 218 691 ls (.int y :: .int x :: st) S h = ev d 218 692 ls (.int (x + y) :: st) S h := u_II (f := fun x y => x + y) rfl d ls y x st S h
set_option maxRecDepth 50000 in
theorem u218_692 (d : Nat) (ls : List Value) (i : Int32) (c : Nat) (st : List Value) (S : aS) (h : aH) : ev d 218 692 ls (.int i :: .ref c :: st) S h = gd (aK S c = 100 ∨ aK S c = 200) (gd (inB i (aL S c)) (ev d 218 693 ls (.int (h.1 c i.toNatClampNeg) :: st) S h)) := u_ALdI rfl d ls i c st S h
set_option maxRecDepth 50000 in
theorem u218_693 (d : Nat) (ls : List Value) (a0 : Value) (c : Nat) (st : List Value) (S : aS) (h : aH) : ev (d + 1) 218 693 ls (a0 :: .ref c :: st) S h = gd (aK S c = 11) (gd (cs st ≤ 8) ((call d 190 [.ref c, a0] S h).bind fun r => ev (d + 1) 218 696 ls (r.1.toList ++ st) r.2.1 r.2.2)) := u_CalV1 (as := [a0]) rfl rfl d ls c st S h
set_option maxRecDepth 50000 in
theorem u218_696 (d : Nat) (ls : List Value) (y x : Int32) (st : List Value) (S : aS) (h : aH) : ev d 218 696 ls (.int y :: .int x :: st) S h = br (x = y) (ev d 218 1047 ls st S h) (ev d 218 699 ls st S h) := u_Ic (P := fun x y => x = y) rfl d ls y x st S h
set_option maxRecDepth 50000 in
theorem u218_699 (d : Nat) (ls st : List Value) (S : aS) (h : aH) : ev d 218 699 ls st S h = ev d 218 700 ls (.int 0 :: st) S h := u_Push rfl d ls st S h
set_option maxRecDepth 50000 in
theorem u218_700 (d : Nat) (ls : List Value) (x : Int32) (S : aS) (h : aH) : ev d 218 700 ls [.int x] S h = gd (vp_nar .boolean x = x) (some (some (.int x), S, h)) := u_RetN rfl d ls x S h
set_option maxRecDepth 50000 in
theorem u218_701 (d : Nat) (v0 v2 v3 : Value) (x : Nat) (st : List Value) (S : aS) (h : aH) : ev d 218 701 [v0, .ref x, v2, v3] st S h = ev d 218 702 [v0, .ref x, v2, v3] (.ref x :: st) S h := u_LdA rfl rfl d st S h
set_option maxRecDepth 50000 in
theorem u218_702 (d : Nat) (v1 v2 v3 : Value) (x : Nat) (st : List Value) (S : aS) (h : aH) : ev d 218 702 [.ref x, v1, v2, v3] st S h = ev d 218 703 [.ref x, v1, v2, v3] (.ref x :: st) S h := u_LdA rfl rfl d st S h
set_option maxRecDepth 50000 in
theorem u218_703 (d : Nat) (v0 v1 v2 : Value) (x : Int32) (st : List Value) (S : aS) (h : aH) : ev d 218 703 [v0, v1, v2, .int x] st S h = ev d 218 704 [v0, v1, v2, .int x] (.int x :: st) S h := u_LdI rfl rfl d st S h
set_option maxRecDepth 50000 in
theorem u218_704 (d : Nat) (ls st : List Value) (S : aS) (h : aH) : ev d 218 704 ls st S h = ev d 218 705 ls (.int 1 :: st) S h := u_Push rfl d ls st S h
set_option maxRecDepth 50000 in
theorem u218_705 (d : Nat) (ls : List Value) (y x : Int32) (st : List Value) (S : aS) (h : aH) : ev d 218 705 ls (.int y :: .int x :: st) S h = ev d 218 706 ls (.int (x + y) :: st) S h := u_II (f := fun x y => x + y) rfl d ls y x st S h
set_option maxRecDepth 50000 in
theorem u218_706 (d : Nat) (ls : List Value) (i : Int32) (c : Nat) (st : List Value) (S : aS) (h : aH) : ev d 218 706 ls (.int i :: .ref c :: st) S h = gd (aK S c = 100 ∨ aK S c = 200) (gd (inB i (aL S c)) (ev d 218 707 ls (.int (h.1 c i.toNatClampNeg) :: st) S h)) := u_ALdI rfl d ls i c st S h
set_option maxRecDepth 50000 in
theorem u218_707 (d : Nat) (ls : List Value) (a0 : Value) (c : Nat) (st : List Value) (S : aS) (h : aH) : ev (d + 1) 218 707 ls (a0 :: .ref c :: st) S h = gd (aK S c = 10) (gd (cs st ≤ 8) ((call d 97 [.ref c, a0] S h).bind fun r => ev (d + 1) 218 710 ls (r.1.toList ++ st) r.2.1 r.2.2)) := u_CalV1 (as := [a0]) rfl rfl d ls c st S h
set_option maxRecDepth 50000 in
theorem u218_710 (d : Nat) (v0 v1 v3 : Value) (x : Nat) (st : List Value) (S : aS) (h : aH) : ev d 218 710 [v0, v1, .ref x, v3] st S h = ev d 218 711 [v0, v1, .ref x, v3] (.ref x :: st) S h := u_LdA rfl rfl d st S h
set_option maxRecDepth 50000 in
theorem u218_711 (d : Nat) (v1 v2 v3 : Value) (x : Nat) (st : List Value) (S : aS) (h : aH) : ev d 218 711 [.ref x, v1, v2, v3] st S h = ev d 218 712 [.ref x, v1, v2, v3] (.ref x :: st) S h := u_LdA rfl rfl d st S h
set_option maxRecDepth 50000 in
theorem u218_712 (d : Nat) (v0 v1 v2 : Value) (x : Int32) (st : List Value) (S : aS) (h : aH) : ev d 218 712 [v0, v1, v2, .int x] st S h = ev d 218 713 [v0, v1, v2, .int x] (.int x :: st) S h := u_LdI rfl rfl d st S h
set_option maxRecDepth 50000 in
theorem u218_713 (d : Nat) (ls st : List Value) (S : aS) (h : aH) : ev d 218 713 ls st S h = ev d 218 714 ls (.int 1 :: st) S h := u_Push rfl d ls st S h
set_option maxRecDepth 50000 in
theorem u218_714 (d : Nat) (ls : List Value) (y x : Int32) (st : List Value) (S : aS) (h : aH) : ev d 218 714 ls (.int y :: .int x :: st) S h = ev d 218 715 ls (.int (x + y) :: st) S h := u_II (f := fun x y => x + y) rfl d ls y x st S h
set_option maxRecDepth 50000 in
theorem u218_715 (d : Nat) (ls : List Value) (i : Int32) (c : Nat) (st : List Value) (S : aS) (h : aH) : ev d 218 715 ls (.int i :: .ref c :: st) S h = gd (aK S c = 100 ∨ aK S c = 200) (gd (inB i (aL S c)) (ev d 218 716 ls (.int (h.1 c i.toNatClampNeg) :: st) S h)) := u_ALdI rfl d ls i c st S h
set_option maxRecDepth 50000 in
theorem u218_716 (d : Nat) (ls : List Value) (a0 : Value) (c : Nat) (st : List Value) (S : aS) (h : aH) : ev (d + 1) 218 716 ls (a0 :: .ref c :: st) S h = gd (aK S c = 11) (gd (cs st ≤ 8) ((call d 191 [.ref c, a0] S h).bind fun r => ev (d + 1) 218 719 ls (r.1.toList ++ st) r.2.1 r.2.2)) := u_CalV1 (as := [a0]) rfl rfl d ls c st S h
set_option maxRecDepth 50000 in
theorem u218_719 (d : Nat) (ls : List Value) (y x : Int32) (st : List Value) (S : aS) (h : aH) : ev d 218 719 ls (.int y :: .int x :: st) S h = br (x = y) (ev d 218 1047 ls st S h) (ev d 218 722 ls st S h) := u_Ic (P := fun x y => x = y) rfl d ls y x st S h
set_option maxRecDepth 50000 in
theorem u218_722 (d : Nat) (ls st : List Value) (S : aS) (h : aH) : ev d 218 722 ls st S h = ev d 218 723 ls (.int 0 :: st) S h := u_Push rfl d ls st S h
set_option maxRecDepth 50000 in
theorem u218_723 (d : Nat) (ls : List Value) (x : Int32) (S : aS) (h : aH) : ev d 218 723 ls [.int x] S h = gd (vp_nar .boolean x = x) (some (some (.int x), S, h)) := u_RetN rfl d ls x S h
set_option maxRecDepth 50000 in
theorem u218_724 (d : Nat) (v0 v2 v3 : Value) (x : Nat) (st : List Value) (S : aS) (h : aH) : ev d 218 724 [v0, .ref x, v2, v3] st S h = ev d 218 725 [v0, .ref x, v2, v3] (.ref x :: st) S h := u_LdA rfl rfl d st S h
set_option maxRecDepth 50000 in
theorem u218_725 (d : Nat) (v1 v2 v3 : Value) (x : Nat) (st : List Value) (S : aS) (h : aH) : ev d 218 725 [.ref x, v1, v2, v3] st S h = ev d 218 726 [.ref x, v1, v2, v3] (.ref x :: st) S h := u_LdA rfl rfl d st S h
set_option maxRecDepth 50000 in
theorem u218_726 (d : Nat) (v0 v1 v2 : Value) (x : Int32) (st : List Value) (S : aS) (h : aH) : ev d 218 726 [v0, v1, v2, .int x] st S h = ev d 218 727 [v0, v1, v2, .int x] (.int x :: st) S h := u_LdI rfl rfl d st S h
set_option maxRecDepth 50000 in
theorem u218_727 (d : Nat) (ls st : List Value) (S : aS) (h : aH) : ev d 218 727 ls st S h = ev d 218 728 ls (.int 1 :: st) S h := u_Push rfl d ls st S h
set_option maxRecDepth 50000 in
theorem u218_728 (d : Nat) (ls : List Value) (y x : Int32) (st : List Value) (S : aS) (h : aH) : ev d 218 728 ls (.int y :: .int x :: st) S h = ev d 218 729 ls (.int (x + y) :: st) S h := u_II (f := fun x y => x + y) rfl d ls y x st S h
set_option maxRecDepth 50000 in
theorem u218_729 (d : Nat) (ls : List Value) (i : Int32) (c : Nat) (st : List Value) (S : aS) (h : aH) : ev d 218 729 ls (.int i :: .ref c :: st) S h = gd (aK S c = 100 ∨ aK S c = 200) (gd (inB i (aL S c)) (ev d 218 730 ls (.int (h.1 c i.toNatClampNeg) :: st) S h)) := u_ALdI rfl d ls i c st S h
set_option maxRecDepth 50000 in
theorem u218_730 (d : Nat) (v1 v2 v3 : Value) (x : Nat) (st : List Value) (S : aS) (h : aH) : ev d 218 730 [.ref x, v1, v2, v3] st S h = ev d 218 731 [.ref x, v1, v2, v3] (.ref x :: st) S h := u_LdA rfl rfl d st S h
set_option maxRecDepth 50000 in
theorem u218_731 (d : Nat) (v0 v1 v2 : Value) (x : Int32) (st : List Value) (S : aS) (h : aH) : ev d 218 731 [v0, v1, v2, .int x] st S h = ev d 218 732 [v0, v1, v2, .int x] (.int x :: st) S h := u_LdI rfl rfl d st S h
set_option maxRecDepth 50000 in
theorem u218_732 (d : Nat) (ls st : List Value) (S : aS) (h : aH) : ev d 218 732 ls st S h = ev d 218 733 ls (.int 2 :: st) S h := u_Push rfl d ls st S h
set_option maxRecDepth 50000 in
theorem u218_733 (d : Nat) (ls : List Value) (y x : Int32) (st : List Value) (S : aS) (h : aH) : ev d 218 733 ls (.int y :: .int x :: st) S h = ev d 218 734 ls (.int (x + y) :: st) S h := u_II (f := fun x y => x + y) rfl d ls y x st S h
set_option maxRecDepth 50000 in
theorem u218_734 (d : Nat) (ls : List Value) (i : Int32) (c : Nat) (st : List Value) (S : aS) (h : aH) : ev d 218 734 ls (.int i :: .ref c :: st) S h = gd (aK S c = 100 ∨ aK S c = 200) (gd (inB i (aL S c)) (ev d 218 735 ls (.int (h.1 c i.toNatClampNeg) :: st) S h)) := u_ALdI rfl d ls i c st S h
set_option maxRecDepth 50000 in
theorem u218_735 (d : Nat) (v1 v2 v3 : Value) (x : Nat) (st : List Value) (S : aS) (h : aH) : ev d 218 735 [.ref x, v1, v2, v3] st S h = ev d 218 736 [.ref x, v1, v2, v3] (.ref x :: st) S h := u_LdA rfl rfl d st S h
set_option maxRecDepth 50000 in
theorem u218_736 (d : Nat) (v0 v1 v2 : Value) (x : Int32) (st : List Value) (S : aS) (h : aH) : ev d 218 736 [v0, v1, v2, .int x] st S h = ev d 218 737 [v0, v1, v2, .int x] (.int x :: st) S h := u_LdI rfl rfl d st S h
set_option maxRecDepth 50000 in
theorem u218_737 (d : Nat) (ls st : List Value) (S : aS) (h : aH) : ev d 218 737 ls st S h = ev d 218 738 ls (.int 3 :: st) S h := u_Push rfl d ls st S h
set_option maxRecDepth 50000 in
theorem u218_738 (d : Nat) (ls : List Value) (y x : Int32) (st : List Value) (S : aS) (h : aH) : ev d 218 738 ls (.int y :: .int x :: st) S h = ev d 218 739 ls (.int (x + y) :: st) S h := u_II (f := fun x y => x + y) rfl d ls y x st S h
set_option maxRecDepth 50000 in
theorem u218_739 (d : Nat) (ls : List Value) (i : Int32) (c : Nat) (st : List Value) (S : aS) (h : aH) : ev d 218 739 ls (.int i :: .ref c :: st) S h = gd (aK S c = 100 ∨ aK S c = 200) (gd (inB i (aL S c)) (ev d 218 740 ls (.int (h.1 c i.toNatClampNeg) :: st) S h)) := u_ALdI rfl d ls i c st S h
set_option maxRecDepth 50000 in
theorem u218_740 (d : Nat) (ls : List Value) (a0 a1 a2 : Value) (c : Nat) (st : List Value) (S : aS) (h : aH) : ev (d + 1) 218 740 ls (a0 :: a1 :: a2 :: .ref c :: st) S h = gd (aK S c = 10) (gd (cs st ≤ 8) ((call d 98 [.ref c, a2, a1, a0] S h).bind fun r => ev (d + 1) 218 743 ls (r.1.toList ++ st) r.2.1 r.2.2)) := u_CalV1 (as := [a0, a1, a2]) rfl rfl d ls c st S h
set_option maxRecDepth 50000 in
theorem u218_743 (d : Nat) (v0 v1 v3 : Value) (x : Nat) (st : List Value) (S : aS) (h : aH) : ev d 218 743 [v0, v1, .ref x, v3] st S h = ev d 218 744 [v0, v1, .ref x, v3] (.ref x :: st) S h := u_LdA rfl rfl d st S h
set_option maxRecDepth 50000 in
theorem u218_744 (d : Nat) (v1 v2 v3 : Value) (x : Nat) (st : List Value) (S : aS) (h : aH) : ev d 218 744 [.ref x, v1, v2, v3] st S h = ev d 218 745 [.ref x, v1, v2, v3] (.ref x :: st) S h := u_LdA rfl rfl d st S h
set_option maxRecDepth 50000 in
theorem u218_745 (d : Nat) (v0 v1 v2 : Value) (x : Int32) (st : List Value) (S : aS) (h : aH) : ev d 218 745 [v0, v1, v2, .int x] st S h = ev d 218 746 [v0, v1, v2, .int x] (.int x :: st) S h := u_LdI rfl rfl d st S h
set_option maxRecDepth 50000 in
theorem u218_746 (d : Nat) (ls st : List Value) (S : aS) (h : aH) : ev d 218 746 ls st S h = ev d 218 747 ls (.int 1 :: st) S h := u_Push rfl d ls st S h
set_option maxRecDepth 50000 in
theorem u218_747 (d : Nat) (ls : List Value) (y x : Int32) (st : List Value) (S : aS) (h : aH) : ev d 218 747 ls (.int y :: .int x :: st) S h = ev d 218 748 ls (.int (x + y) :: st) S h := u_II (f := fun x y => x + y) rfl d ls y x st S h
set_option maxRecDepth 50000 in
theorem u218_748 (d : Nat) (ls : List Value) (i : Int32) (c : Nat) (st : List Value) (S : aS) (h : aH) : ev d 218 748 ls (.int i :: .ref c :: st) S h = gd (aK S c = 100 ∨ aK S c = 200) (gd (inB i (aL S c)) (ev d 218 749 ls (.int (h.1 c i.toNatClampNeg) :: st) S h)) := u_ALdI rfl d ls i c st S h
set_option maxRecDepth 50000 in
theorem u218_749 (d : Nat) (v1 v2 v3 : Value) (x : Nat) (st : List Value) (S : aS) (h : aH) : ev d 218 749 [.ref x, v1, v2, v3] st S h = ev d 218 750 [.ref x, v1, v2, v3] (.ref x :: st) S h := u_LdA rfl rfl d st S h
set_option maxRecDepth 50000 in
theorem u218_750 (d : Nat) (v0 v1 v2 : Value) (x : Int32) (st : List Value) (S : aS) (h : aH) : ev d 218 750 [v0, v1, v2, .int x] st S h = ev d 218 751 [v0, v1, v2, .int x] (.int x :: st) S h := u_LdI rfl rfl d st S h
set_option maxRecDepth 50000 in
theorem u218_751 (d : Nat) (ls st : List Value) (S : aS) (h : aH) : ev d 218 751 ls st S h = ev d 218 752 ls (.int 2 :: st) S h := u_Push rfl d ls st S h
set_option maxRecDepth 50000 in
theorem u218_752 (d : Nat) (ls : List Value) (y x : Int32) (st : List Value) (S : aS) (h : aH) : ev d 218 752 ls (.int y :: .int x :: st) S h = ev d 218 753 ls (.int (x + y) :: st) S h := u_II (f := fun x y => x + y) rfl d ls y x st S h
set_option maxRecDepth 50000 in
theorem u218_753 (d : Nat) (ls : List Value) (i : Int32) (c : Nat) (st : List Value) (S : aS) (h : aH) : ev d 218 753 ls (.int i :: .ref c :: st) S h = gd (aK S c = 100 ∨ aK S c = 200) (gd (inB i (aL S c)) (ev d 218 754 ls (.int (h.1 c i.toNatClampNeg) :: st) S h)) := u_ALdI rfl d ls i c st S h
set_option maxRecDepth 50000 in
theorem u218_754 (d : Nat) (v1 v2 v3 : Value) (x : Nat) (st : List Value) (S : aS) (h : aH) : ev d 218 754 [.ref x, v1, v2, v3] st S h = ev d 218 755 [.ref x, v1, v2, v3] (.ref x :: st) S h := u_LdA rfl rfl d st S h
set_option maxRecDepth 50000 in
theorem u218_755 (d : Nat) (v0 v1 v2 : Value) (x : Int32) (st : List Value) (S : aS) (h : aH) : ev d 218 755 [v0, v1, v2, .int x] st S h = ev d 218 756 [v0, v1, v2, .int x] (.int x :: st) S h := u_LdI rfl rfl d st S h
set_option maxRecDepth 50000 in
theorem u218_756 (d : Nat) (ls st : List Value) (S : aS) (h : aH) : ev d 218 756 ls st S h = ev d 218 757 ls (.int 3 :: st) S h := u_Push rfl d ls st S h
set_option maxRecDepth 50000 in
theorem u218_757 (d : Nat) (ls : List Value) (y x : Int32) (st : List Value) (S : aS) (h : aH) : ev d 218 757 ls (.int y :: .int x :: st) S h = ev d 218 758 ls (.int (x + y) :: st) S h := u_II (f := fun x y => x + y) rfl d ls y x st S h
set_option maxRecDepth 50000 in
theorem u218_758 (d : Nat) (ls : List Value) (i : Int32) (c : Nat) (st : List Value) (S : aS) (h : aH) : ev d 218 758 ls (.int i :: .ref c :: st) S h = gd (aK S c = 100 ∨ aK S c = 200) (gd (inB i (aL S c)) (ev d 218 759 ls (.int (h.1 c i.toNatClampNeg) :: st) S h)) := u_ALdI rfl d ls i c st S h
set_option maxRecDepth 50000 in
theorem u218_759 (d : Nat) (ls : List Value) (a0 a1 a2 : Value) (c : Nat) (st : List Value) (S : aS) (h : aH) : ev (d + 1) 218 759 ls (a0 :: a1 :: a2 :: .ref c :: st) S h = gd (aK S c = 11) (gd (cs st ≤ 8) ((call d 192 [.ref c, a2, a1, a0] S h).bind fun r => ev (d + 1) 218 762 ls (r.1.toList ++ st) r.2.1 r.2.2)) := u_CalV1 (as := [a0, a1, a2]) rfl rfl d ls c st S h
set_option maxRecDepth 50000 in
theorem u218_762 (d : Nat) (ls : List Value) (y x : Int32) (st : List Value) (S : aS) (h : aH) : ev d 218 762 ls (.int y :: .int x :: st) S h = br (x = y) (ev d 218 1047 ls st S h) (ev d 218 765 ls st S h) := u_Ic (P := fun x y => x = y) rfl d ls y x st S h
set_option maxRecDepth 50000 in
theorem u218_765 (d : Nat) (ls st : List Value) (S : aS) (h : aH) : ev d 218 765 ls st S h = ev d 218 766 ls (.int 0 :: st) S h := u_Push rfl d ls st S h
set_option maxRecDepth 50000 in
theorem u218_766 (d : Nat) (ls : List Value) (x : Int32) (S : aS) (h : aH) : ev d 218 766 ls [.int x] S h = gd (vp_nar .boolean x = x) (some (some (.int x), S, h)) := u_RetN rfl d ls x S h
set_option maxRecDepth 50000 in
theorem u218_767 (d : Nat) (v0 v2 v3 : Value) (x : Nat) (st : List Value) (S : aS) (h : aH) : ev d 218 767 [v0, .ref x, v2, v3] st S h = ev d 218 768 [v0, .ref x, v2, v3] (.ref x :: st) S h := u_LdA rfl rfl d st S h
set_option maxRecDepth 50000 in
theorem u218_768 (d : Nat) (v1 v2 v3 : Value) (x : Nat) (st : List Value) (S : aS) (h : aH) : ev d 218 768 [.ref x, v1, v2, v3] st S h = ev d 218 769 [.ref x, v1, v2, v3] (.ref x :: st) S h := u_LdA rfl rfl d st S h
set_option maxRecDepth 50000 in
theorem u218_769 (d : Nat) (v0 v1 v2 : Value) (x : Int32) (st : List Value) (S : aS) (h : aH) : ev d 218 769 [v0, v1, v2, .int x] st S h = ev d 218 770 [v0, v1, v2, .int x] (.int x :: st) S h := u_LdI rfl rfl d st S h
set_option maxRecDepth 50000 in
theorem u218_770 (d : Nat) (ls st : List Value) (S : aS) (h : aH) : ev d 218 770 ls st S h = ev d 218 771 ls (.int 1 :: st) S h := u_Push rfl d ls st S h
set_option maxRecDepth 50000 in
theorem u218_771 (d : Nat) (ls : List Value) (y x : Int32) (st : List Value) (S : aS) (h : aH) : ev d 218 771 ls (.int y :: .int x :: st) S h = ev d 218 772 ls (.int (x + y) :: st) S h := u_II (f := fun x y => x + y) rfl d ls y x st S h
set_option maxRecDepth 50000 in
theorem u218_772 (d : Nat) (ls : List Value) (i : Int32) (c : Nat) (st : List Value) (S : aS) (h : aH) : ev d 218 772 ls (.int i :: .ref c :: st) S h = gd (aK S c = 100 ∨ aK S c = 200) (gd (inB i (aL S c)) (ev d 218 773 ls (.int (h.1 c i.toNatClampNeg) :: st) S h)) := u_ALdI rfl d ls i c st S h
set_option maxRecDepth 50000 in
theorem u218_773 (d : Nat) (v1 v2 v3 : Value) (x : Nat) (st : List Value) (S : aS) (h : aH) : ev d 218 773 [.ref x, v1, v2, v3] st S h = ev d 218 774 [.ref x, v1, v2, v3] (.ref x :: st) S h := u_LdA rfl rfl d st S h
set_option maxRecDepth 50000 in
theorem u218_774 (d : Nat) (v0 v1 v2 : Value) (x : Int32) (st : List Value) (S : aS) (h : aH) : ev d 218 774 [v0, v1, v2, .int x] st S h = ev d 218 775 [v0, v1, v2, .int x] (.int x :: st) S h := u_LdI rfl rfl d st S h
set_option maxRecDepth 50000 in
theorem u218_775 (d : Nat) (ls st : List Value) (S : aS) (h : aH) : ev d 218 775 ls st S h = ev d 218 776 ls (.int 2 :: st) S h := u_Push rfl d ls st S h
set_option maxRecDepth 50000 in
theorem u218_776 (d : Nat) (ls : List Value) (y x : Int32) (st : List Value) (S : aS) (h : aH) : ev d 218 776 ls (.int y :: .int x :: st) S h = ev d 218 777 ls (.int (x + y) :: st) S h := u_II (f := fun x y => x + y) rfl d ls y x st S h
set_option maxRecDepth 50000 in
theorem u218_777 (d : Nat) (ls : List Value) (i : Int32) (c : Nat) (st : List Value) (S : aS) (h : aH) : ev d 218 777 ls (.int i :: .ref c :: st) S h = gd (aK S c = 100 ∨ aK S c = 200) (gd (inB i (aL S c)) (ev d 218 778 ls (.int (h.1 c i.toNatClampNeg) :: st) S h)) := u_ALdI rfl d ls i c st S h
set_option maxRecDepth 50000 in
theorem u218_778 (d : Nat) (ls : List Value) (a0 a1 : Value) (c : Nat) (st : List Value) (S : aS) (h : aH) : ev (d + 1) 218 778 ls (a0 :: a1 :: .ref c :: st) S h = gd (aK S c = 10) (gd (cs st ≤ 8) ((call d 99 [.ref c, a1, a0] S h).bind fun r => ev (d + 1) 218 781 ls (r.1.toList ++ st) r.2.1 r.2.2)) := u_CalV1 (as := [a0, a1]) rfl rfl d ls c st S h
set_option maxRecDepth 50000 in
theorem u218_781 (d : Nat) (v0 v1 v3 : Value) (x : Nat) (st : List Value) (S : aS) (h : aH) : ev d 218 781 [v0, v1, .ref x, v3] st S h = ev d 218 782 [v0, v1, .ref x, v3] (.ref x :: st) S h := u_LdA rfl rfl d st S h
set_option maxRecDepth 50000 in
theorem u218_782 (d : Nat) (v1 v2 v3 : Value) (x : Nat) (st : List Value) (S : aS) (h : aH) : ev d 218 782 [.ref x, v1, v2, v3] st S h = ev d 218 783 [.ref x, v1, v2, v3] (.ref x :: st) S h := u_LdA rfl rfl d st S h
set_option maxRecDepth 50000 in
theorem u218_783 (d : Nat) (v0 v1 v2 : Value) (x : Int32) (st : List Value) (S : aS) (h : aH) : ev d 218 783 [v0, v1, v2, .int x] st S h = ev d 218 784 [v0, v1, v2, .int x] (.int x :: st) S h := u_LdI rfl rfl d st S h
set_option maxRecDepth 50000 in
theorem u218_784 (d : Nat) (ls st : List Value) (S : aS) (h : aH) : ev d 218 784 ls st S h = ev d 218 785 ls (.int 1 :: st) S h := u_Push rfl d ls st S h
set_option maxRecDepth 50000 in
theorem u218_785 (d : Nat) (ls : List Value) (y x : Int32) (st : List Value) (S : aS) (h : aH) : ev d 218 785 ls (.int y :: .int x :: st) S h = ev d 218 786 ls (.int (x + y) :: st) S h := u_II (f := fun x y => x + y) rfl d ls y x st S h
set_option maxRecDepth 50000 in
theorem u218_786 (d : Nat) (ls : List Value) (i : Int32) (c : Nat) (st : List Value) (S : aS) (h : aH) : ev d 218 786 ls (.int i :: .ref c :: st) S h = gd (aK S c = 100 ∨ aK S c = 200) (gd (inB i (aL S c)) (ev d 218 787 ls (.int (h.1 c i.toNatClampNeg) :: st) S h)) := u_ALdI rfl d ls i c st S h
set_option maxRecDepth 50000 in
theorem u218_787 (d : Nat) (v1 v2 v3 : Value) (x : Nat) (st : List Value) (S : aS) (h : aH) : ev d 218 787 [.ref x, v1, v2, v3] st S h = ev d 218 788 [.ref x, v1, v2, v3] (.ref x :: st) S h := u_LdA rfl rfl d st S h
set_option maxRecDepth 50000 in
theorem u218_788 (d : Nat) (v0 v1 v2 : Value) (x : Int32) (st : List Value) (S : aS) (h : aH) : ev d 218 788 [v0, v1, v2, .int x] st S h = ev d 218 789 [v0, v1, v2, .int x] (.int x :: st) S h := u_LdI rfl rfl d st S h
set_option maxRecDepth 50000 in
theorem u218_789 (d : Nat) (ls st : List Value) (S : aS) (h : aH) : ev d 218 789 ls st S h = ev d 218 790 ls (.int 2 :: st) S h := u_Push rfl d ls st S h
set_option maxRecDepth 50000 in
theorem u218_790 (d : Nat) (ls : List Value) (y x : Int32) (st : List Value) (S : aS) (h : aH) : ev d 218 790 ls (.int y :: .int x :: st) S h = ev d 218 791 ls (.int (x + y) :: st) S h := u_II (f := fun x y => x + y) rfl d ls y x st S h
set_option maxRecDepth 50000 in
theorem u218_791 (d : Nat) (ls : List Value) (i : Int32) (c : Nat) (st : List Value) (S : aS) (h : aH) : ev d 218 791 ls (.int i :: .ref c :: st) S h = gd (aK S c = 100 ∨ aK S c = 200) (gd (inB i (aL S c)) (ev d 218 792 ls (.int (h.1 c i.toNatClampNeg) :: st) S h)) := u_ALdI rfl d ls i c st S h
set_option maxRecDepth 50000 in
theorem u218_792 (d : Nat) (ls : List Value) (a0 a1 : Value) (c : Nat) (st : List Value) (S : aS) (h : aH) : ev (d + 1) 218 792 ls (a0 :: a1 :: .ref c :: st) S h = gd (aK S c = 11) (gd (cs st ≤ 8) ((call d 193 [.ref c, a1, a0] S h).bind fun r => ev (d + 1) 218 795 ls (r.1.toList ++ st) r.2.1 r.2.2)) := u_CalV1 (as := [a0, a1]) rfl rfl d ls c st S h
set_option maxRecDepth 50000 in
theorem u218_795 (d : Nat) (ls : List Value) (y x : Int32) (st : List Value) (S : aS) (h : aH) : ev d 218 795 ls (.int y :: .int x :: st) S h = br (x = y) (ev d 218 1047 ls st S h) (ev d 218 798 ls st S h) := u_Ic (P := fun x y => x = y) rfl d ls y x st S h
set_option maxRecDepth 50000 in
theorem u218_798 (d : Nat) (ls st : List Value) (S : aS) (h : aH) : ev d 218 798 ls st S h = ev d 218 799 ls (.int 0 :: st) S h := u_Push rfl d ls st S h
set_option maxRecDepth 50000 in
theorem u218_799 (d : Nat) (ls : List Value) (x : Int32) (S : aS) (h : aH) : ev d 218 799 ls [.int x] S h = gd (vp_nar .boolean x = x) (some (some (.int x), S, h)) := u_RetN rfl d ls x S h
set_option maxRecDepth 50000 in
theorem u218_800 (d : Nat) (v0 v2 v3 : Value) (x : Nat) (st : List Value) (S : aS) (h : aH) : ev d 218 800 [v0, .ref x, v2, v3] st S h = ev d 218 801 [v0, .ref x, v2, v3] (.ref x :: st) S h := u_LdA rfl rfl d st S h
set_option maxRecDepth 50000 in
theorem u218_801 (d : Nat) (v1 v2 v3 : Value) (x : Nat) (st : List Value) (S : aS) (h : aH) : ev d 218 801 [.ref x, v1, v2, v3] st S h = ev d 218 802 [.ref x, v1, v2, v3] (.ref x :: st) S h := u_LdA rfl rfl d st S h
set_option maxRecDepth 50000 in
theorem u218_802 (d : Nat) (v0 v1 v2 : Value) (x : Int32) (st : List Value) (S : aS) (h : aH) : ev d 218 802 [v0, v1, v2, .int x] st S h = ev d 218 803 [v0, v1, v2, .int x] (.int x :: st) S h := u_LdI rfl rfl d st S h
set_option maxRecDepth 50000 in
theorem u218_803 (d : Nat) (ls st : List Value) (S : aS) (h : aH) : ev d 218 803 ls st S h = ev d 218 804 ls (.int 1 :: st) S h := u_Push rfl d ls st S h
set_option maxRecDepth 50000 in
theorem u218_804 (d : Nat) (ls : List Value) (y x : Int32) (st : List Value) (S : aS) (h : aH) : ev d 218 804 ls (.int y :: .int x :: st) S h = ev d 218 805 ls (.int (x + y) :: st) S h := u_II (f := fun x y => x + y) rfl d ls y x st S h
set_option maxRecDepth 50000 in
theorem u218_805 (d : Nat) (ls : List Value) (i : Int32) (c : Nat) (st : List Value) (S : aS) (h : aH) : ev d 218 805 ls (.int i :: .ref c :: st) S h = gd (aK S c = 100 ∨ aK S c = 200) (gd (inB i (aL S c)) (ev d 218 806 ls (.int (h.1 c i.toNatClampNeg) :: st) S h)) := u_ALdI rfl d ls i c st S h
set_option maxRecDepth 50000 in
theorem u218_806 (d : Nat) (v1 v2 v3 : Value) (x : Nat) (st : List Value) (S : aS) (h : aH) : ev d 218 806 [.ref x, v1, v2, v3] st S h = ev d 218 807 [.ref x, v1, v2, v3] (.ref x :: st) S h := u_LdA rfl rfl d st S h
set_option maxRecDepth 50000 in
theorem u218_807 (d : Nat) (v0 v1 v2 : Value) (x : Int32) (st : List Value) (S : aS) (h : aH) : ev d 218 807 [v0, v1, v2, .int x] st S h = ev d 218 808 [v0, v1, v2, .int x] (.int x :: st) S h := u_LdI rfl rfl d st S h
set_option maxRecDepth 50000 in
theorem u218_808 (d : Nat) (ls st : List Value) (S : aS) (h : aH) : ev d 218 808 ls st S h = ev d 218 809 ls (.int 2 :: st) S h := u_Push rfl d ls st S h
set_option maxRecDepth 50000 in
theorem u218_809 (d : Nat) (ls : List Value) (y x : Int32) (st : List Value) (S : aS) (h : aH) : ev d 218 809 ls (.int y :: .int x :: st) S h = ev d 218 810 ls (.int (x + y) :: st) S h := u_II (f := fun x y => x + y) rfl d ls y x st S h
set_option maxRecDepth 50000 in
theorem u218_810 (d : Nat) (ls : List Value) (i : Int32) (c : Nat) (st : List Value) (S : aS) (h : aH) : ev d 218 810 ls (.int i :: .ref c :: st) S h = gd (aK S c = 100 ∨ aK S c = 200) (gd (inB i (aL S c)) (ev d 218 811 ls (.int (h.1 c i.toNatClampNeg) :: st) S h)) := u_ALdI rfl d ls i c st S h
set_option maxRecDepth 50000 in
theorem u218_811 (d : Nat) (v1 v2 v3 : Value) (x : Nat) (st : List Value) (S : aS) (h : aH) : ev d 218 811 [.ref x, v1, v2, v3] st S h = ev d 218 812 [.ref x, v1, v2, v3] (.ref x :: st) S h := u_LdA rfl rfl d st S h
set_option maxRecDepth 50000 in
theorem u218_812 (d : Nat) (v0 v1 v2 : Value) (x : Int32) (st : List Value) (S : aS) (h : aH) : ev d 218 812 [v0, v1, v2, .int x] st S h = ev d 218 813 [v0, v1, v2, .int x] (.int x :: st) S h := u_LdI rfl rfl d st S h
set_option maxRecDepth 50000 in
theorem u218_813 (d : Nat) (ls st : List Value) (S : aS) (h : aH) : ev d 218 813 ls st S h = ev d 218 814 ls (.int 3 :: st) S h := u_Push rfl d ls st S h
set_option maxRecDepth 50000 in
theorem u218_814 (d : Nat) (ls : List Value) (y x : Int32) (st : List Value) (S : aS) (h : aH) : ev d 218 814 ls (.int y :: .int x :: st) S h = ev d 218 815 ls (.int (x + y) :: st) S h := u_II (f := fun x y => x + y) rfl d ls y x st S h
set_option maxRecDepth 50000 in
theorem u218_815 (d : Nat) (ls : List Value) (i : Int32) (c : Nat) (st : List Value) (S : aS) (h : aH) : ev d 218 815 ls (.int i :: .ref c :: st) S h = gd (aK S c = 100 ∨ aK S c = 200) (gd (inB i (aL S c)) (ev d 218 816 ls (.int (h.1 c i.toNatClampNeg) :: st) S h)) := u_ALdI rfl d ls i c st S h
set_option maxRecDepth 50000 in
theorem u218_816 (d : Nat) (v1 v2 v3 : Value) (x : Nat) (st : List Value) (S : aS) (h : aH) : ev d 218 816 [.ref x, v1, v2, v3] st S h = ev d 218 817 [.ref x, v1, v2, v3] (.ref x :: st) S h := u_LdA rfl rfl d st S h
set_option maxRecDepth 50000 in
theorem u218_817 (d : Nat) (v0 v1 v2 : Value) (x : Int32) (st : List Value) (S : aS) (h : aH) : ev d 218 817 [v0, v1, v2, .int x] st S h = ev d 218 818 [v0, v1, v2, .int x] (.int x :: st) S h := u_LdI rfl rfl d st S h
set_option maxRecDepth 50000 in
theorem u218_818 (d : Nat) (ls st : List Value) (S : aS) (h : aH) : ev d 218 818 ls st S h = ev d 218 819 ls (.int 4 :: st) S h := u_Push rfl d ls st S h
set_option maxRecDepth 50000 in
theorem u218_819 (d : Nat) (ls : List Value) (y x : Int32) (st : List Value) (S : aS) (h : aH) : ev d 218 819 ls (.int y :: .int x :: st) S h = ev d 218 820 ls (.int (x + y) :: st) S h := u_II (f := fun x y => x + y) rfl d ls y x st S h
set_option maxRecDepth 50000 in
theorem u218_820 (d : Nat) (ls : List Value) (i : Int32) (c : Nat) (st : List Value) (S : aS) (h : aH) : ev d 218 820 ls (.int i :: .ref c :: st) S h = gd (aK S c = 100 ∨ aK S c = 200) (gd (inB i (aL S c)) (ev d 218 821 ls (.int (h.1 c i.toNatClampNeg) :: st) S h)) := u_ALdI rfl d ls i c st S h
set_option maxRecDepth 50000 in
theorem u218_821 (d : Nat) (ls : List Value) (a0 a1 a2 a3 : Value) (c : Nat) (st : List Value) (S : aS) (h : aH) : ev (d + 1) 218 821 ls (a0 :: a1 :: a2 :: a3 :: .ref c :: st) S h = gd (aK S c = 10) (gd (cs st ≤ 8) ((call d 100 [.ref c, a3, a2, a1, a0] S h).bind fun r => ev (d + 1) 218 824 ls (r.1.toList ++ st) r.2.1 r.2.2)) := u_CalV1 (as := [a0, a1, a2, a3]) rfl rfl d ls c st S h
set_option maxRecDepth 50000 in
theorem u218_824 (d : Nat) (v0 v1 v3 : Value) (x : Nat) (st : List Value) (S : aS) (h : aH) : ev d 218 824 [v0, v1, .ref x, v3] st S h = ev d 218 825 [v0, v1, .ref x, v3] (.ref x :: st) S h := u_LdA rfl rfl d st S h
set_option maxRecDepth 50000 in
theorem u218_825 (d : Nat) (v1 v2 v3 : Value) (x : Nat) (st : List Value) (S : aS) (h : aH) : ev d 218 825 [.ref x, v1, v2, v3] st S h = ev d 218 826 [.ref x, v1, v2, v3] (.ref x :: st) S h := u_LdA rfl rfl d st S h
set_option maxRecDepth 50000 in
theorem u218_826 (d : Nat) (v0 v1 v2 : Value) (x : Int32) (st : List Value) (S : aS) (h : aH) : ev d 218 826 [v0, v1, v2, .int x] st S h = ev d 218 827 [v0, v1, v2, .int x] (.int x :: st) S h := u_LdI rfl rfl d st S h
set_option maxRecDepth 50000 in
theorem u218_827 (d : Nat) (ls st : List Value) (S : aS) (h : aH) : ev d 218 827 ls st S h = ev d 218 828 ls (.int 1 :: st) S h := u_Push rfl d ls st S h
set_option maxRecDepth 50000 in
theorem u218_828 (d : Nat) (ls : List Value) (y x : Int32) (st : List Value) (S : aS) (h : aH) : ev d 218 828 ls (.int y :: .int x :: st) S h = ev d 218 829 ls (.int (x + y) :: st) S h := u_II (f := fun x y => x + y) rfl d ls y x st S h
set_option maxRecDepth 50000 in
theorem u218_829 (d : Nat) (ls : List Value) (i : Int32) (c : Nat) (st : List Value) (S : aS) (h : aH) : ev d 218 829 ls (.int i :: .ref c :: st) S h = gd (aK S c = 100 ∨ aK S c = 200) (gd (inB i (aL S c)) (ev d 218 830 ls (.int (h.1 c i.toNatClampNeg) :: st) S h)) := u_ALdI rfl d ls i c st S h
set_option maxRecDepth 50000 in
theorem u218_830 (d : Nat) (v1 v2 v3 : Value) (x : Nat) (st : List Value) (S : aS) (h : aH) : ev d 218 830 [.ref x, v1, v2, v3] st S h = ev d 218 831 [.ref x, v1, v2, v3] (.ref x :: st) S h := u_LdA rfl rfl d st S h
set_option maxRecDepth 50000 in
theorem u218_831 (d : Nat) (v0 v1 v2 : Value) (x : Int32) (st : List Value) (S : aS) (h : aH) : ev d 218 831 [v0, v1, v2, .int x] st S h = ev d 218 832 [v0, v1, v2, .int x] (.int x :: st) S h := u_LdI rfl rfl d st S h
set_option maxRecDepth 50000 in
theorem u218_832 (d : Nat) (ls st : List Value) (S : aS) (h : aH) : ev d 218 832 ls st S h = ev d 218 833 ls (.int 2 :: st) S h := u_Push rfl d ls st S h
set_option maxRecDepth 50000 in
theorem u218_833 (d : Nat) (ls : List Value) (y x : Int32) (st : List Value) (S : aS) (h : aH) : ev d 218 833 ls (.int y :: .int x :: st) S h = ev d 218 834 ls (.int (x + y) :: st) S h := u_II (f := fun x y => x + y) rfl d ls y x st S h
set_option maxRecDepth 50000 in
theorem u218_834 (d : Nat) (ls : List Value) (i : Int32) (c : Nat) (st : List Value) (S : aS) (h : aH) : ev d 218 834 ls (.int i :: .ref c :: st) S h = gd (aK S c = 100 ∨ aK S c = 200) (gd (inB i (aL S c)) (ev d 218 835 ls (.int (h.1 c i.toNatClampNeg) :: st) S h)) := u_ALdI rfl d ls i c st S h
set_option maxRecDepth 50000 in
theorem u218_835 (d : Nat) (v1 v2 v3 : Value) (x : Nat) (st : List Value) (S : aS) (h : aH) : ev d 218 835 [.ref x, v1, v2, v3] st S h = ev d 218 836 [.ref x, v1, v2, v3] (.ref x :: st) S h := u_LdA rfl rfl d st S h
set_option maxRecDepth 50000 in
theorem u218_836 (d : Nat) (v0 v1 v2 : Value) (x : Int32) (st : List Value) (S : aS) (h : aH) : ev d 218 836 [v0, v1, v2, .int x] st S h = ev d 218 837 [v0, v1, v2, .int x] (.int x :: st) S h := u_LdI rfl rfl d st S h
set_option maxRecDepth 50000 in
theorem u218_837 (d : Nat) (ls st : List Value) (S : aS) (h : aH) : ev d 218 837 ls st S h = ev d 218 838 ls (.int 3 :: st) S h := u_Push rfl d ls st S h
set_option maxRecDepth 50000 in
theorem u218_838 (d : Nat) (ls : List Value) (y x : Int32) (st : List Value) (S : aS) (h : aH) : ev d 218 838 ls (.int y :: .int x :: st) S h = ev d 218 839 ls (.int (x + y) :: st) S h := u_II (f := fun x y => x + y) rfl d ls y x st S h
set_option maxRecDepth 50000 in
theorem u218_839 (d : Nat) (ls : List Value) (i : Int32) (c : Nat) (st : List Value) (S : aS) (h : aH) : ev d 218 839 ls (.int i :: .ref c :: st) S h = gd (aK S c = 100 ∨ aK S c = 200) (gd (inB i (aL S c)) (ev d 218 840 ls (.int (h.1 c i.toNatClampNeg) :: st) S h)) := u_ALdI rfl d ls i c st S h
set_option maxRecDepth 50000 in
theorem u218_840 (d : Nat) (v1 v2 v3 : Value) (x : Nat) (st : List Value) (S : aS) (h : aH) : ev d 218 840 [.ref x, v1, v2, v3] st S h = ev d 218 841 [.ref x, v1, v2, v3] (.ref x :: st) S h := u_LdA rfl rfl d st S h
set_option maxRecDepth 50000 in
theorem u218_841 (d : Nat) (v0 v1 v2 : Value) (x : Int32) (st : List Value) (S : aS) (h : aH) : ev d 218 841 [v0, v1, v2, .int x] st S h = ev d 218 842 [v0, v1, v2, .int x] (.int x :: st) S h := u_LdI rfl rfl d st S h
set_option maxRecDepth 50000 in
theorem u218_842 (d : Nat) (ls st : List Value) (S : aS) (h : aH) : ev d 218 842 ls st S h = ev d 218 843 ls (.int 4 :: st) S h := u_Push rfl d ls st S h
set_option maxRecDepth 50000 in
theorem u218_843 (d : Nat) (ls : List Value) (y x : Int32) (st : List Value) (S : aS) (h : aH) : ev d 218 843 ls (.int y :: .int x :: st) S h = ev d 218 844 ls (.int (x + y) :: st) S h := u_II (f := fun x y => x + y) rfl d ls y x st S h
set_option maxRecDepth 50000 in
theorem u218_844 (d : Nat) (ls : List Value) (i : Int32) (c : Nat) (st : List Value) (S : aS) (h : aH) : ev d 218 844 ls (.int i :: .ref c :: st) S h = gd (aK S c = 100 ∨ aK S c = 200) (gd (inB i (aL S c)) (ev d 218 845 ls (.int (h.1 c i.toNatClampNeg) :: st) S h)) := u_ALdI rfl d ls i c st S h
set_option maxRecDepth 50000 in
theorem u218_845 (d : Nat) (ls : List Value) (a0 a1 a2 a3 : Value) (c : Nat) (st : List Value) (S : aS) (h : aH) : ev (d + 1) 218 845 ls (a0 :: a1 :: a2 :: a3 :: .ref c :: st) S h = gd (aK S c = 11) (gd (cs st ≤ 8) ((call d 195 [.ref c, a3, a2, a1, a0] S h).bind fun r => ev (d + 1) 218 848 ls (r.1.toList ++ st) r.2.1 r.2.2)) := u_CalV1 (as := [a0, a1, a2, a3]) rfl rfl d ls c st S h
set_option maxRecDepth 50000 in
theorem u218_848 (d : Nat) (ls : List Value) (y x : Int32) (st : List Value) (S : aS) (h : aH) : ev d 218 848 ls (.int y :: .int x :: st) S h = br (x = y) (ev d 218 1047 ls st S h) (ev d 218 851 ls st S h) := u_Ic (P := fun x y => x = y) rfl d ls y x st S h
set_option maxRecDepth 50000 in
theorem u218_851 (d : Nat) (ls st : List Value) (S : aS) (h : aH) : ev d 218 851 ls st S h = ev d 218 852 ls (.int 0 :: st) S h := u_Push rfl d ls st S h
set_option maxRecDepth 50000 in
theorem u218_852 (d : Nat) (ls : List Value) (x : Int32) (S : aS) (h : aH) : ev d 218 852 ls [.int x] S h = gd (vp_nar .boolean x = x) (some (some (.int x), S, h)) := u_RetN rfl d ls x S h
set_option maxRecDepth 50000 in
theorem u218_853 (d : Nat) (v0 v2 v3 : Value) (x : Nat) (st : List Value) (S : aS) (h : aH) : ev d 218 853 [v0, .ref x, v2, v3] st S h = ev d 218 854 [v0, .ref x, v2, v3] (.ref x :: st) S h := u_LdA rfl rfl d st S h
set_option maxRecDepth 50000 in
theorem u218_854 (d : Nat) (v1 v2 v3 : Value) (x : Nat) (st : List Value) (S : aS) (h : aH) : ev d 218 854 [.ref x, v1, v2, v3] st S h = ev d 218 855 [.ref x, v1, v2, v3] (.ref x :: st) S h := u_LdA rfl rfl d st S h
set_option maxRecDepth 50000 in
theorem u218_855 (d : Nat) (v0 v1 v2 : Value) (x : Int32) (st : List Value) (S : aS) (h : aH) : ev d 218 855 [v0, v1, v2, .int x] st S h = ev d 218 856 [v0, v1, v2, .int x] (.int x :: st) S h := u_LdI rfl rfl d st S h
set_option maxRecDepth 50000 in
theorem u218_856 (d : Nat) (ls st : List Value) (S : aS) (h : aH) : ev d 218 856 ls st S h = ev d 218 857 ls (.int 1 :: st) S h := u_Push rfl d ls st S h
set_option maxRecDepth 50000 in
theorem u218_857 (d : Nat) (ls : List Value) (y x : Int32) (st : List Value) (S : aS) (h : aH) : ev d 218 857 ls (.int y :: .int x :: st) S h = ev d 218 858 ls (.int (x + y) :: st) S h := u_II (f := fun x y => x + y) rfl d ls y x st S h
set_option maxRecDepth 50000 in
theorem u218_858 (d : Nat) (ls : List Value) (i : Int32) (c : Nat) (st : List Value) (S : aS) (h : aH) : ev d 218 858 ls (.int i :: .ref c :: st) S h = gd (aK S c = 100 ∨ aK S c = 200) (gd (inB i (aL S c)) (ev d 218 859 ls (.int (h.1 c i.toNatClampNeg) :: st) S h)) := u_ALdI rfl d ls i c st S h
set_option maxRecDepth 50000 in
theorem u218_859 (d : Nat) (ls : List Value) (a0 : Value) (c : Nat) (st : List Value) (S : aS) (h : aH) : ev (d + 1) 218 859 ls (a0 :: .ref c :: st) S h = gd (aK S c = 10) (gd (cs st ≤ 8) ((call d 101 [.ref c, a0] S h).bind fun r => ev (d + 1) 218 862 ls (r.1.toList ++ st) r.2.1 r.2.2)) := u_CalV1 (as := [a0]) rfl rfl d ls c st S h
set_option maxRecDepth 50000 in
theorem u218_862 (d : Nat) (v0 v1 v3 : Value) (x : Nat) (st : List Value) (S : aS) (h : aH) : ev d 218 862 [v0, v1, .ref x, v3] st S h = ev d 218 863 [v0, v1, .ref x, v3] (.ref x :: st) S h := u_LdA rfl rfl d st S h
set_option maxRecDepth 50000 in
theorem u218_863 (d : Nat) (v1 v2 v3 : Value) (x : Nat) (st : List Value) (S : aS) (h : aH) : ev d 218 863 [.ref x, v1, v2, v3] st S h = ev d 218 864 [.ref x, v1, v2, v3] (.ref x :: st) S h := u_LdA rfl rfl d st S h
set_option maxRecDepth 50000 in
theorem u218_864 (d : Nat) (v0 v1 v2 : Value) (x : Int32) (st : List Value) (S : aS) (h : aH) : ev d 218 864 [v0, v1, v2, .int x] st S h = ev d 218 865 [v0, v1, v2, .int x] (.int x :: st) S h := u_LdI rfl rfl d st S h
set_option maxRecDepth 50000 in
theorem u218_865 (d : Nat) (ls st : List Value) (S : aS) (h : aH) : ev d 218 865 ls st S h = ev d 218 866 ls (.int 1 :: st) S h := u_Push rfl d ls st S h
set_option maxRecDepth 50000 in
theorem u218_866 (d : Nat) (ls : List Value) (y x : Int32) (st : List Value) (S : aS) (h : aH) : ev d 218 866 ls (.int y :: .int x :: st) S h = ev d 218 867 ls (.int (x + y) :: st) S h := u_II (f := fun x y => x + y) rfl d ls y x st S h
set_option maxRecDepth 50000 in
theorem u218_867 (d : Nat) (ls : List Value) (i : Int32) (c : Nat) (st : List Value) (S : aS) (h : aH) : ev d 218 867 ls (.int i :: .ref c :: st) S h = gd (aK S c = 100 ∨ aK S c = 200) (gd (inB i (aL S c)) (ev d 218 868 ls (.int (h.1 c i.toNatClampNeg) :: st) S h)) := u_ALdI rfl d ls i c st S h
set_option maxRecDepth 50000 in
theorem u218_868 (d : Nat) (ls : List Value) (a0 : Value) (c : Nat) (st : List Value) (S : aS) (h : aH) : ev (d + 1) 218 868 ls (a0 :: .ref c :: st) S h = gd (aK S c = 11) (gd (cs st ≤ 8) ((call d 196 [.ref c, a0] S h).bind fun r => ev (d + 1) 218 871 ls (r.1.toList ++ st) r.2.1 r.2.2)) := u_CalV1 (as := [a0]) rfl rfl d ls c st S h
set_option maxRecDepth 50000 in
theorem u218_871 (d : Nat) (ls : List Value) (y x : Int32) (st : List Value) (S : aS) (h : aH) : ev d 218 871 ls (.int y :: .int x :: st) S h = br (x = y) (ev d 218 1047 ls st S h) (ev d 218 874 ls st S h) := u_Ic (P := fun x y => x = y) rfl d ls y x st S h
set_option maxRecDepth 50000 in
theorem u218_874 (d : Nat) (ls st : List Value) (S : aS) (h : aH) : ev d 218 874 ls st S h = ev d 218 875 ls (.int 0 :: st) S h := u_Push rfl d ls st S h
set_option maxRecDepth 50000 in
theorem u218_875 (d : Nat) (ls : List Value) (x : Int32) (S : aS) (h : aH) : ev d 218 875 ls [.int x] S h = gd (vp_nar .boolean x = x) (some (some (.int x), S, h)) := u_RetN rfl d ls x S h
set_option maxRecDepth 50000 in
theorem u218_876 (d : Nat) (v0 v2 v3 : Value) (x : Nat) (st : List Value) (S : aS) (h : aH) : ev d 218 876 [v0, .ref x, v2, v3] st S h = ev d 218 877 [v0, .ref x, v2, v3] (.ref x :: st) S h := u_LdA rfl rfl d st S h
set_option maxRecDepth 50000 in
theorem u218_877 (d : Nat) (v1 v2 v3 : Value) (x : Nat) (st : List Value) (S : aS) (h : aH) : ev d 218 877 [.ref x, v1, v2, v3] st S h = ev d 218 878 [.ref x, v1, v2, v3] (.ref x :: st) S h := u_LdA rfl rfl d st S h
set_option maxRecDepth 50000 in
theorem u218_878 (d : Nat) (v0 v1 v2 : Value) (x : Int32) (st : List Value) (S : aS) (h : aH) : ev d 218 878 [v0, v1, v2, .int x] st S h = ev d 218 879 [v0, v1, v2, .int x] (.int x :: st) S h := u_LdI rfl rfl d st S h
set_option maxRecDepth 50000 in
theorem u218_879 (d : Nat) (ls st : List Value) (S : aS) (h : aH) : ev d 218 879 ls st S h = ev d 218 880 ls (.int 1 :: st) S h := u_Push rfl d ls st S h
set_option maxRecDepth 50000 in
theorem u218_880 (d : Nat) (ls : List Value) (y x : Int32) (st : List Value) (S : aS) (h : aH) : ev d 218 880 ls (.int y :: .int x :: st) S h = ev d 218 881 ls (.int (x + y) :: st) S h := u_II (f := fun x y => x + y) rfl d ls y x st S h
set_option maxRecDepth 50000 in
theorem u218_881 (d : Nat) (ls : List Value) (i : Int32) (c : Nat) (st : List Value) (S : aS) (h : aH) : ev d 218 881 ls (.int i :: .ref c :: st) S h = gd (aK S c = 100 ∨ aK S c = 200) (gd (inB i (aL S c)) (ev d 218 882 ls (.int (h.1 c i.toNatClampNeg) :: st) S h)) := u_ALdI rfl d ls i c st S h
set_option maxRecDepth 50000 in
theorem u218_882 (d : Nat) (ls : List Value) (a0 : Value) (c : Nat) (st : List Value) (S : aS) (h : aH) : ev (d + 1) 218 882 ls (a0 :: .ref c :: st) S h = gd (aK S c = 10) (gd (cs st ≤ 8) ((call d 102 [.ref c, a0] S h).bind fun r => ev (d + 1) 218 885 ls (r.1.toList ++ st) r.2.1 r.2.2)) := u_CalV1 (as := [a0]) rfl rfl d ls c st S h
set_option maxRecDepth 50000 in
theorem u218_885 (d : Nat) (v0 v1 v3 : Value) (x : Nat) (st : List Value) (S : aS) (h : aH) : ev d 218 885 [v0, v1, .ref x, v3] st S h = ev d 218 886 [v0, v1, .ref x, v3] (.ref x :: st) S h := u_LdA rfl rfl d st S h
set_option maxRecDepth 50000 in
theorem u218_886 (d : Nat) (v1 v2 v3 : Value) (x : Nat) (st : List Value) (S : aS) (h : aH) : ev d 218 886 [.ref x, v1, v2, v3] st S h = ev d 218 887 [.ref x, v1, v2, v3] (.ref x :: st) S h := u_LdA rfl rfl d st S h
set_option maxRecDepth 50000 in
theorem u218_887 (d : Nat) (v0 v1 v2 : Value) (x : Int32) (st : List Value) (S : aS) (h : aH) : ev d 218 887 [v0, v1, v2, .int x] st S h = ev d 218 888 [v0, v1, v2, .int x] (.int x :: st) S h := u_LdI rfl rfl d st S h
set_option maxRecDepth 50000 in
theorem u218_888 (d : Nat) (ls st : List Value) (S : aS) (h : aH) : ev d 218 888 ls st S h = ev d 218 889 ls (.int 1 :: st) S h := u_Push rfl d ls st S h
set_option maxRecDepth 50000 in
theorem u218_889 (d : Nat) (ls : List Value) (y x : Int32) (st : List Value) (S : aS) (h : aH) : ev d 218 889 ls (.int y :: .int x :: st) S h = ev d 218 890 ls (.int (x + y) :: st) S h := u_II (f := fun x y => x + y) rfl d ls y x st S h
set_option maxRecDepth 50000 in
theorem u218_890 (d : Nat) (ls : List Value) (i : Int32) (c : Nat) (st : List Value) (S : aS) (h : aH) : ev d 218 890 ls (.int i :: .ref c :: st) S h = gd (aK S c = 100 ∨ aK S c = 200) (gd (inB i (aL S c)) (ev d 218 891 ls (.int (h.1 c i.toNatClampNeg) :: st) S h)) := u_ALdI rfl d ls i c st S h
set_option maxRecDepth 50000 in
theorem u218_891 (d : Nat) (ls : List Value) (a0 : Value) (c : Nat) (st : List Value) (S : aS) (h : aH) : ev (d + 1) 218 891 ls (a0 :: .ref c :: st) S h = gd (aK S c = 11) (gd (cs st ≤ 8) ((call d 197 [.ref c, a0] S h).bind fun r => ev (d + 1) 218 894 ls (r.1.toList ++ st) r.2.1 r.2.2)) := u_CalV1 (as := [a0]) rfl rfl d ls c st S h
set_option maxRecDepth 50000 in
theorem u218_894 (d : Nat) (ls : List Value) (y x : Int32) (st : List Value) (S : aS) (h : aH) : ev d 218 894 ls (.int y :: .int x :: st) S h = br (x = y) (ev d 218 1047 ls st S h) (ev d 218 897 ls st S h) := u_Ic (P := fun x y => x = y) rfl d ls y x st S h
set_option maxRecDepth 50000 in
theorem u218_897 (d : Nat) (ls st : List Value) (S : aS) (h : aH) : ev d 218 897 ls st S h = ev d 218 898 ls (.int 0 :: st) S h := u_Push rfl d ls st S h
set_option maxRecDepth 50000 in
theorem u218_898 (d : Nat) (ls : List Value) (x : Int32) (S : aS) (h : aH) : ev d 218 898 ls [.int x] S h = gd (vp_nar .boolean x = x) (some (some (.int x), S, h)) := u_RetN rfl d ls x S h
set_option maxRecDepth 50000 in
theorem u218_899 (d : Nat) (v0 v2 v3 : Value) (x : Nat) (st : List Value) (S : aS) (h : aH) : ev d 218 899 [v0, .ref x, v2, v3] st S h = ev d 218 900 [v0, .ref x, v2, v3] (.ref x :: st) S h := u_LdA rfl rfl d st S h
set_option maxRecDepth 50000 in
theorem u218_900 (d : Nat) (v1 v2 v3 : Value) (x : Nat) (st : List Value) (S : aS) (h : aH) : ev d 218 900 [.ref x, v1, v2, v3] st S h = ev d 218 901 [.ref x, v1, v2, v3] (.ref x :: st) S h := u_LdA rfl rfl d st S h
set_option maxRecDepth 50000 in
theorem u218_901 (d : Nat) (v0 v1 v2 : Value) (x : Int32) (st : List Value) (S : aS) (h : aH) : ev d 218 901 [v0, v1, v2, .int x] st S h = ev d 218 902 [v0, v1, v2, .int x] (.int x :: st) S h := u_LdI rfl rfl d st S h
set_option maxRecDepth 50000 in
theorem u218_902 (d : Nat) (ls st : List Value) (S : aS) (h : aH) : ev d 218 902 ls st S h = ev d 218 903 ls (.int 1 :: st) S h := u_Push rfl d ls st S h
set_option maxRecDepth 50000 in
theorem u218_903 (d : Nat) (ls : List Value) (y x : Int32) (st : List Value) (S : aS) (h : aH) : ev d 218 903 ls (.int y :: .int x :: st) S h = ev d 218 904 ls (.int (x + y) :: st) S h := u_II (f := fun x y => x + y) rfl d ls y x st S h
set_option maxRecDepth 50000 in
theorem u218_904 (d : Nat) (ls : List Value) (i : Int32) (c : Nat) (st : List Value) (S : aS) (h : aH) : ev d 218 904 ls (.int i :: .ref c :: st) S h = gd (aK S c = 100 ∨ aK S c = 200) (gd (inB i (aL S c)) (ev d 218 905 ls (.int (h.1 c i.toNatClampNeg) :: st) S h)) := u_ALdI rfl d ls i c st S h
set_option maxRecDepth 50000 in
theorem u218_905 (d : Nat) (ls : List Value) (a0 : Value) (c : Nat) (st : List Value) (S : aS) (h : aH) : ev (d + 1) 218 905 ls (a0 :: .ref c :: st) S h = gd (aK S c = 10) (gd (cs st ≤ 8) ((call d 103 [.ref c, a0] S h).bind fun r => ev (d + 1) 218 908 ls (r.1.toList ++ st) r.2.1 r.2.2)) := u_CalV1 (as := [a0]) rfl rfl d ls c st S h
set_option maxRecDepth 50000 in
theorem u218_908 (d : Nat) (v0 v1 v3 : Value) (x : Nat) (st : List Value) (S : aS) (h : aH) : ev d 218 908 [v0, v1, .ref x, v3] st S h = ev d 218 909 [v0, v1, .ref x, v3] (.ref x :: st) S h := u_LdA rfl rfl d st S h
set_option maxRecDepth 50000 in
theorem u218_909 (d : Nat) (v1 v2 v3 : Value) (x : Nat) (st : List Value) (S : aS) (h : aH) : ev d 218 909 [.ref x, v1, v2, v3] st S h = ev d 218 910 [.ref x, v1, v2, v3] (.ref x :: st) S h := u_LdA rfl rfl d st S h
set_option maxRecDepth 50000 in
theorem u218_910 (d : Nat) (v0 v1 v2 : Value) (x : Int32) (st : List Value) (S : aS) (h : aH) : ev d 218 910 [v0, v1, v2, .int x] st S h = ev d 218 911 [v0, v1, v2, .int x] (.int x :: st) S h := u_LdI rfl rfl d st S h
set_option maxRecDepth 50000 in
theorem u218_911 (d : Nat) (ls st : List Value) (S : aS) (h : aH) : ev d 218 911 ls st S h = ev d 218 912 ls (.int 1 :: st) S h := u_Push rfl d ls st S h
set_option maxRecDepth 50000 in
theorem u218_912 (d : Nat) (ls : List Value) (y x : Int32) (st : List Value) (S : aS) (h : aH) : ev d 218 912 ls (.int y :: .int x :: st) S h = ev d 218 913 ls (.int (x + y) :: st) S h := u_II (f := fun x y => x + y) rfl d ls y x st S h
set_option maxRecDepth 50000 in
theorem u218_913 (d : Nat) (ls : List Value) (i : Int32) (c : Nat) (st : List Value) (S : aS) (h : aH) : ev d 218 913 ls (.int i :: .ref c :: st) S h = gd (aK S c = 100 ∨ aK S c = 200) (gd (inB i (aL S c)) (ev d 218 914 ls (.int (h.1 c i.toNatClampNeg) :: st) S h)) := u_ALdI rfl d ls i c st S h
set_option maxRecDepth 50000 in
theorem u218_914 (d : Nat) (ls : List Value) (a0 : Value) (c : Nat) (st : List Value) (S : aS) (h : aH) : ev (d + 1) 218 914 ls (a0 :: .ref c :: st) S h = gd (aK S c = 11) (gd (cs st ≤ 8) ((call d 200 [.ref c, a0] S h).bind fun r => ev (d + 1) 218 917 ls (r.1.toList ++ st) r.2.1 r.2.2)) := u_CalV1 (as := [a0]) rfl rfl d ls c st S h
set_option maxRecDepth 50000 in
theorem u218_917 (d : Nat) (ls : List Value) (y x : Int32) (st : List Value) (S : aS) (h : aH) : ev d 218 917 ls (.int y :: .int x :: st) S h = br (x = y) (ev d 218 1047 ls st S h) (ev d 218 920 ls st S h) := u_Ic (P := fun x y => x = y) rfl d ls y x st S h
set_option maxRecDepth 50000 in
theorem u218_920 (d : Nat) (ls st : List Value) (S : aS) (h : aH) : ev d 218 920 ls st S h = ev d 218 921 ls (.int 0 :: st) S h := u_Push rfl d ls st S h
set_option maxRecDepth 50000 in
theorem u218_921 (d : Nat) (ls : List Value) (x : Int32) (S : aS) (h : aH) : ev d 218 921 ls [.int x] S h = gd (vp_nar .boolean x = x) (some (some (.int x), S, h)) := u_RetN rfl d ls x S h
set_option maxRecDepth 50000 in
theorem u218_922 (d : Nat) (v0 v2 v3 : Value) (x : Nat) (st : List Value) (S : aS) (h : aH) : ev d 218 922 [v0, .ref x, v2, v3] st S h = ev d 218 923 [v0, .ref x, v2, v3] (.ref x :: st) S h := u_LdA rfl rfl d st S h
set_option maxRecDepth 50000 in
theorem u218_923 (d : Nat) (v1 v2 v3 : Value) (x : Nat) (st : List Value) (S : aS) (h : aH) : ev d 218 923 [.ref x, v1, v2, v3] st S h = ev d 218 924 [.ref x, v1, v2, v3] (.ref x :: st) S h := u_LdA rfl rfl d st S h
set_option maxRecDepth 50000 in
theorem u218_924 (d : Nat) (v0 v1 v2 : Value) (x : Int32) (st : List Value) (S : aS) (h : aH) : ev d 218 924 [v0, v1, v2, .int x] st S h = ev d 218 925 [v0, v1, v2, .int x] (.int x :: st) S h := u_LdI rfl rfl d st S h
set_option maxRecDepth 50000 in
theorem u218_925 (d : Nat) (ls st : List Value) (S : aS) (h : aH) : ev d 218 925 ls st S h = ev d 218 926 ls (.int 1 :: st) S h := u_Push rfl d ls st S h
set_option maxRecDepth 50000 in
theorem u218_926 (d : Nat) (ls : List Value) (y x : Int32) (st : List Value) (S : aS) (h : aH) : ev d 218 926 ls (.int y :: .int x :: st) S h = ev d 218 927 ls (.int (x + y) :: st) S h := u_II (f := fun x y => x + y) rfl d ls y x st S h
set_option maxRecDepth 50000 in
theorem u218_927 (d : Nat) (ls : List Value) (i : Int32) (c : Nat) (st : List Value) (S : aS) (h : aH) : ev d 218 927 ls (.int i :: .ref c :: st) S h = gd (aK S c = 100 ∨ aK S c = 200) (gd (inB i (aL S c)) (ev d 218 928 ls (.int (h.1 c i.toNatClampNeg) :: st) S h)) := u_ALdI rfl d ls i c st S h
set_option maxRecDepth 50000 in
theorem u218_928 (d : Nat) (v1 v2 v3 : Value) (x : Nat) (st : List Value) (S : aS) (h : aH) : ev d 218 928 [.ref x, v1, v2, v3] st S h = ev d 218 929 [.ref x, v1, v2, v3] (.ref x :: st) S h := u_LdA rfl rfl d st S h
set_option maxRecDepth 50000 in
theorem u218_929 (d : Nat) (v0 v1 v2 : Value) (x : Int32) (st : List Value) (S : aS) (h : aH) : ev d 218 929 [v0, v1, v2, .int x] st S h = ev d 218 930 [v0, v1, v2, .int x] (.int x :: st) S h := u_LdI rfl rfl d st S h
set_option maxRecDepth 50000 in
theorem u218_930 (d : Nat) (ls st : List Value) (S : aS) (h : aH) : ev d 218 930 ls st S h = ev d 218 931 ls (.int 2 :: st) S h := u_Push rfl d ls st S h
set_option maxRecDepth 50000 in
theorem u218_931 (d : Nat) (ls : List Value) (y x : Int32) (st : List Value) (S : aS) (h : aH) : ev d 218 931 ls (.int y :: .int x :: st) S h = ev d 218 932 ls (.int (x + y) :: st) S h := u_II (f := fun x y => x + y) rfl d ls y x st S h
set_option maxRecDepth 50000 in
theorem u218_932 (d : Nat) (ls : List Value) (i : Int32) (c : Nat) (st : List Value) (S : aS) (h : aH) : ev d 218 932 ls (.int i :: .ref c :: st) S h = gd (aK S c = 100 ∨ aK S c = 200) (gd (inB i (aL S c)) (ev d 218 933 ls (.int (h.1 c i.toNatClampNeg) :: st) S h)) := u_ALdI rfl d ls i c st S h
set_option maxRecDepth 50000 in
theorem u218_933 (d : Nat) (ls : List Value) (a0 a1 : Value) (c : Nat) (st : List Value) (S : aS) (h : aH) : ev (d + 1) 218 933 ls (a0 :: a1 :: .ref c :: st) S h = gd (aK S c = 10) (gd (cs st ≤ 8) ((call d 104 [.ref c, a1, a0] S h).bind fun r => ev (d + 1) 218 936 ls (r.1.toList ++ st) r.2.1 r.2.2)) := u_CalV1 (as := [a0, a1]) rfl rfl d ls c st S h
set_option maxRecDepth 50000 in
theorem u218_936 (d : Nat) (v0 v1 v3 : Value) (x : Nat) (st : List Value) (S : aS) (h : aH) : ev d 218 936 [v0, v1, .ref x, v3] st S h = ev d 218 937 [v0, v1, .ref x, v3] (.ref x :: st) S h := u_LdA rfl rfl d st S h
set_option maxRecDepth 50000 in
theorem u218_937 (d : Nat) (v1 v2 v3 : Value) (x : Nat) (st : List Value) (S : aS) (h : aH) : ev d 218 937 [.ref x, v1, v2, v3] st S h = ev d 218 938 [.ref x, v1, v2, v3] (.ref x :: st) S h := u_LdA rfl rfl d st S h
set_option maxRecDepth 50000 in
theorem u218_938 (d : Nat) (v0 v1 v2 : Value) (x : Int32) (st : List Value) (S : aS) (h : aH) : ev d 218 938 [v0, v1, v2, .int x] st S h = ev d 218 939 [v0, v1, v2, .int x] (.int x :: st) S h := u_LdI rfl rfl d st S h
set_option maxRecDepth 50000 in
theorem u218_939 (d : Nat) (ls st : List Value) (S : aS) (h : aH) : ev d 218 939 ls st S h = ev d 218 940 ls (.int 1 :: st) S h := u_Push rfl d ls st S h
set_option maxRecDepth 50000 in
theorem u218_940 (d : Nat) (ls : List Value) (y x : Int32) (st : List Value) (S : aS) (h : aH) : ev d 218 940 ls (.int y :: .int x :: st) S h = ev d 218 941 ls (.int (x + y) :: st) S h := u_II (f := fun x y => x + y) rfl d ls y x st S h
set_option maxRecDepth 50000 in
theorem u218_941 (d : Nat) (ls : List Value) (i : Int32) (c : Nat) (st : List Value) (S : aS) (h : aH) : ev d 218 941 ls (.int i :: .ref c :: st) S h = gd (aK S c = 100 ∨ aK S c = 200) (gd (inB i (aL S c)) (ev d 218 942 ls (.int (h.1 c i.toNatClampNeg) :: st) S h)) := u_ALdI rfl d ls i c st S h
set_option maxRecDepth 50000 in
theorem u218_942 (d : Nat) (v1 v2 v3 : Value) (x : Nat) (st : List Value) (S : aS) (h : aH) : ev d 218 942 [.ref x, v1, v2, v3] st S h = ev d 218 943 [.ref x, v1, v2, v3] (.ref x :: st) S h := u_LdA rfl rfl d st S h
set_option maxRecDepth 50000 in
theorem u218_943 (d : Nat) (v0 v1 v2 : Value) (x : Int32) (st : List Value) (S : aS) (h : aH) : ev d 218 943 [v0, v1, v2, .int x] st S h = ev d 218 944 [v0, v1, v2, .int x] (.int x :: st) S h := u_LdI rfl rfl d st S h
set_option maxRecDepth 50000 in
theorem u218_944 (d : Nat) (ls st : List Value) (S : aS) (h : aH) : ev d 218 944 ls st S h = ev d 218 945 ls (.int 2 :: st) S h := u_Push rfl d ls st S h
set_option maxRecDepth 50000 in
theorem u218_945 (d : Nat) (ls : List Value) (y x : Int32) (st : List Value) (S : aS) (h : aH) : ev d 218 945 ls (.int y :: .int x :: st) S h = ev d 218 946 ls (.int (x + y) :: st) S h := u_II (f := fun x y => x + y) rfl d ls y x st S h
set_option maxRecDepth 50000 in
theorem u218_946 (d : Nat) (ls : List Value) (i : Int32) (c : Nat) (st : List Value) (S : aS) (h : aH) : ev d 218 946 ls (.int i :: .ref c :: st) S h = gd (aK S c = 100 ∨ aK S c = 200) (gd (inB i (aL S c)) (ev d 218 947 ls (.int (h.1 c i.toNatClampNeg) :: st) S h)) := u_ALdI rfl d ls i c st S h
set_option maxRecDepth 50000 in
theorem u218_947 (d : Nat) (ls : List Value) (a0 a1 : Value) (c : Nat) (st : List Value) (S : aS) (h : aH) : ev (d + 1) 218 947 ls (a0 :: a1 :: .ref c :: st) S h = gd (aK S c = 11) (gd (cs st ≤ 8) ((call d 201 [.ref c, a1, a0] S h).bind fun r => ev (d + 1) 218 950 ls (r.1.toList ++ st) r.2.1 r.2.2)) := u_CalV1 (as := [a0, a1]) rfl rfl d ls c st S h
set_option maxRecDepth 50000 in
theorem u218_950 (d : Nat) (ls : List Value) (y x : Int32) (st : List Value) (S : aS) (h : aH) : ev d 218 950 ls (.int y :: .int x :: st) S h = br (x = y) (ev d 218 1047 ls st S h) (ev d 218 953 ls st S h) := u_Ic (P := fun x y => x = y) rfl d ls y x st S h
set_option maxRecDepth 50000 in
theorem u218_953 (d : Nat) (ls st : List Value) (S : aS) (h : aH) : ev d 218 953 ls st S h = ev d 218 954 ls (.int 0 :: st) S h := u_Push rfl d ls st S h
set_option maxRecDepth 50000 in
theorem u218_954 (d : Nat) (ls : List Value) (x : Int32) (S : aS) (h : aH) : ev d 218 954 ls [.int x] S h = gd (vp_nar .boolean x = x) (some (some (.int x), S, h)) := u_RetN rfl d ls x S h
set_option maxRecDepth 50000 in
theorem u218_955 (d : Nat) (v0 v2 v3 : Value) (x : Nat) (st : List Value) (S : aS) (h : aH) : ev d 218 955 [v0, .ref x, v2, v3] st S h = ev d 218 956 [v0, .ref x, v2, v3] (.ref x :: st) S h := u_LdA rfl rfl d st S h
set_option maxRecDepth 50000 in
theorem u218_956 (d : Nat) (v1 v2 v3 : Value) (x : Nat) (st : List Value) (S : aS) (h : aH) : ev d 218 956 [.ref x, v1, v2, v3] st S h = ev d 218 957 [.ref x, v1, v2, v3] (.ref x :: st) S h := u_LdA rfl rfl d st S h
set_option maxRecDepth 50000 in
theorem u218_957 (d : Nat) (v0 v1 v2 : Value) (x : Int32) (st : List Value) (S : aS) (h : aH) : ev d 218 957 [v0, v1, v2, .int x] st S h = ev d 218 958 [v0, v1, v2, .int x] (.int x :: st) S h := u_LdI rfl rfl d st S h
set_option maxRecDepth 50000 in
theorem u218_958 (d : Nat) (ls st : List Value) (S : aS) (h : aH) : ev d 218 958 ls st S h = ev d 218 959 ls (.int 1 :: st) S h := u_Push rfl d ls st S h
set_option maxRecDepth 50000 in
theorem u218_959 (d : Nat) (ls : List Value) (y x : Int32) (st : List Value) (S : aS) (h : aH) : ev d 218 959 ls (.int y :: .int x :: st) S h = ev d 218 960 ls (.int (x + y) :: st) S h := u_II (f := fun x y => x + y) rfl d ls y x st S h
set_option maxRecDepth 50000 in
theorem u218_960 (d : Nat) (ls : List Value) (i : Int32) (c : Nat) (st : List Value) (S : aS) (h : aH) : ev d 218 960 ls (.int i :: .ref c :: st) S h = gd (aK S c = 100 ∨ aK S c = 200) (gd (inB i (aL S c)) (ev d 218 961 ls (.int (h.1 c i.toNatClampNeg) :: st) S h)) := u_ALdI rfl d ls i c st S h
set_option maxRecDepth 50000 in
theorem u218_961 (d : Nat) (v1 v2 v3 : Value) (x : Nat) (st : List Value) (S : aS) (h : aH) : ev d 218 961 [.ref x, v1, v2, v3] st S h = ev d 218 962 [.ref x, v1, v2, v3] (.ref x :: st) S h := u_LdA rfl rfl d st S h
set_option maxRecDepth 50000 in
theorem u218_962 (d : Nat) (v0 v1 v2 : Value) (x : Int32) (st : List Value) (S : aS) (h : aH) : ev d 218 962 [v0, v1, v2, .int x] st S h = ev d 218 963 [v0, v1, v2, .int x] (.int x :: st) S h := u_LdI rfl rfl d st S h
set_option maxRecDepth 50000 in
theorem u218_963 (d : Nat) (ls st : List Value) (S : aS) (h : aH) : ev d 218 963 ls st S h = ev d 218 964 ls (.int 2 :: st) S h := u_Push rfl d ls st S h
set_option maxRecDepth 50000 in
theorem u218_964 (d : Nat) (ls : List Value) (y x : Int32) (st : List Value) (S : aS) (h : aH) : ev d 218 964 ls (.int y :: .int x :: st) S h = ev d 218 965 ls (.int (x + y) :: st) S h := u_II (f := fun x y => x + y) rfl d ls y x st S h
set_option maxRecDepth 50000 in
theorem u218_965 (d : Nat) (ls : List Value) (i : Int32) (c : Nat) (st : List Value) (S : aS) (h : aH) : ev d 218 965 ls (.int i :: .ref c :: st) S h = gd (aK S c = 100 ∨ aK S c = 200) (gd (inB i (aL S c)) (ev d 218 966 ls (.int (h.1 c i.toNatClampNeg) :: st) S h)) := u_ALdI rfl d ls i c st S h
set_option maxRecDepth 50000 in
theorem u218_966 (d : Nat) (ls : List Value) (a0 a1 : Value) (c : Nat) (st : List Value) (S : aS) (h : aH) : ev (d + 1) 218 966 ls (a0 :: a1 :: .ref c :: st) S h = gd (aK S c = 10) (gd (cs st ≤ 8) ((call d 105 [.ref c, a1, a0] S h).bind fun r => ev (d + 1) 218 969 ls (r.1.toList ++ st) r.2.1 r.2.2)) := u_CalV1 (as := [a0, a1]) rfl rfl d ls c st S h
set_option maxRecDepth 50000 in
theorem u218_969 (d : Nat) (v0 v1 v3 : Value) (x : Nat) (st : List Value) (S : aS) (h : aH) : ev d 218 969 [v0, v1, .ref x, v3] st S h = ev d 218 970 [v0, v1, .ref x, v3] (.ref x :: st) S h := u_LdA rfl rfl d st S h
set_option maxRecDepth 50000 in
theorem u218_970 (d : Nat) (v1 v2 v3 : Value) (x : Nat) (st : List Value) (S : aS) (h : aH) : ev d 218 970 [.ref x, v1, v2, v3] st S h = ev d 218 971 [.ref x, v1, v2, v3] (.ref x :: st) S h := u_LdA rfl rfl d st S h
set_option maxRecDepth 50000 in
theorem u218_971 (d : Nat) (v0 v1 v2 : Value) (x : Int32) (st : List Value) (S : aS) (h : aH) : ev d 218 971 [v0, v1, v2, .int x] st S h = ev d 218 972 [v0, v1, v2, .int x] (.int x :: st) S h := u_LdI rfl rfl d st S h
set_option maxRecDepth 50000 in
theorem u218_972 (d : Nat) (ls st : List Value) (S : aS) (h : aH) : ev d 218 972 ls st S h = ev d 218 973 ls (.int 1 :: st) S h := u_Push rfl d ls st S h
set_option maxRecDepth 50000 in
theorem u218_973 (d : Nat) (ls : List Value) (y x : Int32) (st : List Value) (S : aS) (h : aH) : ev d 218 973 ls (.int y :: .int x :: st) S h = ev d 218 974 ls (.int (x + y) :: st) S h := u_II (f := fun x y => x + y) rfl d ls y x st S h
set_option maxRecDepth 50000 in
theorem u218_974 (d : Nat) (ls : List Value) (i : Int32) (c : Nat) (st : List Value) (S : aS) (h : aH) : ev d 218 974 ls (.int i :: .ref c :: st) S h = gd (aK S c = 100 ∨ aK S c = 200) (gd (inB i (aL S c)) (ev d 218 975 ls (.int (h.1 c i.toNatClampNeg) :: st) S h)) := u_ALdI rfl d ls i c st S h
set_option maxRecDepth 50000 in
theorem u218_975 (d : Nat) (v1 v2 v3 : Value) (x : Nat) (st : List Value) (S : aS) (h : aH) : ev d 218 975 [.ref x, v1, v2, v3] st S h = ev d 218 976 [.ref x, v1, v2, v3] (.ref x :: st) S h := u_LdA rfl rfl d st S h
set_option maxRecDepth 50000 in
theorem u218_976 (d : Nat) (v0 v1 v2 : Value) (x : Int32) (st : List Value) (S : aS) (h : aH) : ev d 218 976 [v0, v1, v2, .int x] st S h = ev d 218 977 [v0, v1, v2, .int x] (.int x :: st) S h := u_LdI rfl rfl d st S h
set_option maxRecDepth 50000 in
theorem u218_977 (d : Nat) (ls st : List Value) (S : aS) (h : aH) : ev d 218 977 ls st S h = ev d 218 978 ls (.int 2 :: st) S h := u_Push rfl d ls st S h
set_option maxRecDepth 50000 in
theorem u218_978 (d : Nat) (ls : List Value) (y x : Int32) (st : List Value) (S : aS) (h : aH) : ev d 218 978 ls (.int y :: .int x :: st) S h = ev d 218 979 ls (.int (x + y) :: st) S h := u_II (f := fun x y => x + y) rfl d ls y x st S h
set_option maxRecDepth 50000 in
theorem u218_979 (d : Nat) (ls : List Value) (i : Int32) (c : Nat) (st : List Value) (S : aS) (h : aH) : ev d 218 979 ls (.int i :: .ref c :: st) S h = gd (aK S c = 100 ∨ aK S c = 200) (gd (inB i (aL S c)) (ev d 218 980 ls (.int (h.1 c i.toNatClampNeg) :: st) S h)) := u_ALdI rfl d ls i c st S h
set_option maxRecDepth 50000 in
theorem u218_980 (d : Nat) (ls : List Value) (a0 a1 : Value) (c : Nat) (st : List Value) (S : aS) (h : aH) : ev (d + 1) 218 980 ls (a0 :: a1 :: .ref c :: st) S h = gd (aK S c = 11) (gd (cs st ≤ 8) ((call d 206 [.ref c, a1, a0] S h).bind fun r => ev (d + 1) 218 983 ls (r.1.toList ++ st) r.2.1 r.2.2)) := u_CalV1 (as := [a0, a1]) rfl rfl d ls c st S h
set_option maxRecDepth 50000 in
theorem u218_983 (d : Nat) (ls : List Value) (y x : Int32) (st : List Value) (S : aS) (h : aH) : ev d 218 983 ls (.int y :: .int x :: st) S h = br (x = y) (ev d 218 1047 ls st S h) (ev d 218 986 ls st S h) := u_Ic (P := fun x y => x = y) rfl d ls y x st S h
set_option maxRecDepth 50000 in
theorem u218_986 (d : Nat) (ls st : List Value) (S : aS) (h : aH) : ev d 218 986 ls st S h = ev d 218 987 ls (.int 0 :: st) S h := u_Push rfl d ls st S h
set_option maxRecDepth 50000 in
theorem u218_987 (d : Nat) (ls : List Value) (x : Int32) (S : aS) (h : aH) : ev d 218 987 ls [.int x] S h = gd (vp_nar .boolean x = x) (some (some (.int x), S, h)) := u_RetN rfl d ls x S h
set_option maxRecDepth 50000 in
theorem u218_988 (d : Nat) (v0 v2 v3 : Value) (x : Nat) (st : List Value) (S : aS) (h : aH) : ev d 218 988 [v0, .ref x, v2, v3] st S h = ev d 218 989 [v0, .ref x, v2, v3] (.ref x :: st) S h := u_LdA rfl rfl d st S h
set_option maxRecDepth 50000 in
theorem u218_989 (d : Nat) (v1 v2 v3 : Value) (x : Nat) (st : List Value) (S : aS) (h : aH) : ev d 218 989 [.ref x, v1, v2, v3] st S h = ev d 218 990 [.ref x, v1, v2, v3] (.ref x :: st) S h := u_LdA rfl rfl d st S h
set_option maxRecDepth 50000 in
theorem u218_990 (d : Nat) (v0 v1 v2 : Value) (x : Int32) (st : List Value) (S : aS) (h : aH) : ev d 218 990 [v0, v1, v2, .int x] st S h = ev d 218 991 [v0, v1, v2, .int x] (.int x :: st) S h := u_LdI rfl rfl d st S h
set_option maxRecDepth 50000 in
theorem u218_991 (d : Nat) (ls st : List Value) (S : aS) (h : aH) : ev d 218 991 ls st S h = ev d 218 992 ls (.int 1 :: st) S h := u_Push rfl d ls st S h
set_option maxRecDepth 50000 in
theorem u218_992 (d : Nat) (ls : List Value) (y x : Int32) (st : List Value) (S : aS) (h : aH) : ev d 218 992 ls (.int y :: .int x :: st) S h = ev d 218 993 ls (.int (x + y) :: st) S h := u_II (f := fun x y => x + y) rfl d ls y x st S h
set_option maxRecDepth 50000 in
theorem u218_993 (d : Nat) (ls : List Value) (i : Int32) (c : Nat) (st : List Value) (S : aS) (h : aH) : ev d 218 993 ls (.int i :: .ref c :: st) S h = gd (aK S c = 100 ∨ aK S c = 200) (gd (inB i (aL S c)) (ev d 218 994 ls (.int (h.1 c i.toNatClampNeg) :: st) S h)) := u_ALdI rfl d ls i c st S h
set_option maxRecDepth 50000 in
theorem u218_994 (d : Nat) (ls : List Value) (a0 : Value) (c : Nat) (st : List Value) (S : aS) (h : aH) : ev (d + 1) 218 994 ls (a0 :: .ref c :: st) S h = gd (aK S c = 10) (gd (cs st ≤ 8) ((call d 106 [.ref c, a0] S h).bind fun r => ev (d + 1) 218 997 ls (r.1.toList ++ st) r.2.1 r.2.2)) := u_CalV1 (as := [a0]) rfl rfl d ls c st S h
set_option maxRecDepth 50000 in
theorem u218_997 (d : Nat) (v0 v1 v3 : Value) (x : Nat) (st : List Value) (S : aS) (h : aH) : ev d 218 997 [v0, v1, .ref x, v3] st S h = ev d 218 998 [v0, v1, .ref x, v3] (.ref x :: st) S h := u_LdA rfl rfl d st S h
set_option maxRecDepth 50000 in
theorem u218_998 (d : Nat) (v1 v2 v3 : Value) (x : Nat) (st : List Value) (S : aS) (h : aH) : ev d 218 998 [.ref x, v1, v2, v3] st S h = ev d 218 999 [.ref x, v1, v2, v3] (.ref x :: st) S h := u_LdA rfl rfl d st S h
set_option maxRecDepth 50000 in
theorem u218_999 (d : Nat) (v0 v1 v2 : Value) (x : Int32) (st : List Value) (S : aS) (h : aH) : ev d 218 999 [v0, v1, v2, .int x] st S h = ev d 218 1000 [v0, v1, v2, .int x] (.int x :: st) S h := u_LdI rfl rfl d st S h
set_option maxRecDepth 50000 in
theorem u218_1000 (d : Nat) (ls st : List Value) (S : aS) (h : aH) : ev d 218 1000 ls st S h = ev d 218 1001 ls (.int 1 :: st) S h := u_Push rfl d ls st S h
set_option maxRecDepth 50000 in
theorem u218_1001 (d : Nat) (ls : List Value) (y x : Int32) (st : List Value) (S : aS) (h : aH) : ev d 218 1001 ls (.int y :: .int x :: st) S h = ev d 218 1002 ls (.int (x + y) :: st) S h := u_II (f := fun x y => x + y) rfl d ls y x st S h
set_option maxRecDepth 50000 in
theorem u218_1002 (d : Nat) (ls : List Value) (i : Int32) (c : Nat) (st : List Value) (S : aS) (h : aH) : ev d 218 1002 ls (.int i :: .ref c :: st) S h = gd (aK S c = 100 ∨ aK S c = 200) (gd (inB i (aL S c)) (ev d 218 1003 ls (.int (h.1 c i.toNatClampNeg) :: st) S h)) := u_ALdI rfl d ls i c st S h
set_option maxRecDepth 50000 in
theorem u218_1003 (d : Nat) (ls : List Value) (a0 : Value) (c : Nat) (st : List Value) (S : aS) (h : aH) : ev (d + 1) 218 1003 ls (a0 :: .ref c :: st) S h = gd (aK S c = 11) (gd (cs st ≤ 8) ((call d 207 [.ref c, a0] S h).bind fun r => ev (d + 1) 218 1006 ls (r.1.toList ++ st) r.2.1 r.2.2)) := u_CalV1 (as := [a0]) rfl rfl d ls c st S h
set_option maxRecDepth 50000 in
theorem u218_1006 (d : Nat) (ls : List Value) (y x : Int32) (st : List Value) (S : aS) (h : aH) : ev d 218 1006 ls (.int y :: .int x :: st) S h = br (x = y) (ev d 218 1047 ls st S h) (ev d 218 1009 ls st S h) := u_Ic (P := fun x y => x = y) rfl d ls y x st S h
set_option maxRecDepth 50000 in
theorem u218_1009 (d : Nat) (ls st : List Value) (S : aS) (h : aH) : ev d 218 1009 ls st S h = ev d 218 1010 ls (.int 0 :: st) S h := u_Push rfl d ls st S h
set_option maxRecDepth 50000 in
theorem u218_1010 (d : Nat) (ls : List Value) (x : Int32) (S : aS) (h : aH) : ev d 218 1010 ls [.int x] S h = gd (vp_nar .boolean x = x) (some (some (.int x), S, h)) := u_RetN rfl d ls x S h
set_option maxRecDepth 50000 in
theorem u218_1011 (d : Nat) (v0 v2 v3 : Value) (x : Nat) (st : List Value) (S : aS) (h : aH) : ev d 218 1011 [v0, .ref x, v2, v3] st S h = ev d 218 1012 [v0, .ref x, v2, v3] (.ref x :: st) S h := u_LdA rfl rfl d st S h
set_option maxRecDepth 50000 in
theorem u218_1012 (d : Nat) (v1 v2 v3 : Value) (x : Nat) (st : List Value) (S : aS) (h : aH) : ev d 218 1012 [.ref x, v1, v2, v3] st S h = ev d 218 1013 [.ref x, v1, v2, v3] (.ref x :: st) S h := u_LdA rfl rfl d st S h
set_option maxRecDepth 50000 in
theorem u218_1013 (d : Nat) (v0 v1 v2 : Value) (x : Int32) (st : List Value) (S : aS) (h : aH) : ev d 218 1013 [v0, v1, v2, .int x] st S h = ev d 218 1014 [v0, v1, v2, .int x] (.int x :: st) S h := u_LdI rfl rfl d st S h
set_option maxRecDepth 50000 in
theorem u218_1014 (d : Nat) (ls st : List Value) (S : aS) (h : aH) : ev d 218 1014 ls st S h = ev d 218 1015 ls (.int 1 :: st) S h := u_Push rfl d ls st S h
set_option maxRecDepth 50000 in
theorem u218_1015 (d : Nat) (ls : List Value) (y x : Int32) (st : List Value) (S : aS) (h : aH) : ev d 218 1015 ls (.int y :: .int x :: st) S h = ev d 218 1016 ls (.int (x + y) :: st) S h := u_II (f := fun x y => x + y) rfl d ls y x st S h
set_option maxRecDepth 50000 in
theorem u218_1016 (d : Nat) (ls : List Value) (i : Int32) (c : Nat) (st : List Value) (S : aS) (h : aH) : ev d 218 1016 ls (.int i :: .ref c :: st) S h = gd (aK S c = 100 ∨ aK S c = 200) (gd (inB i (aL S c)) (ev d 218 1017 ls (.int (h.1 c i.toNatClampNeg) :: st) S h)) := u_ALdI rfl d ls i c st S h
set_option maxRecDepth 50000 in
theorem u218_1017 (d : Nat) (ls : List Value) (a0 : Value) (c : Nat) (st : List Value) (S : aS) (h : aH) : ev (d + 1) 218 1017 ls (a0 :: .ref c :: st) S h = gd (aK S c = 10) (gd (cs st ≤ 8) ((call d 107 [.ref c, a0] S h).bind fun r => ev (d + 1) 218 1020 ls (r.1.toList ++ st) r.2.1 r.2.2)) := u_CalV1 (as := [a0]) rfl rfl d ls c st S h
set_option maxRecDepth 50000 in
theorem u218_1020 (d : Nat) (v0 v1 v3 : Value) (x : Nat) (st : List Value) (S : aS) (h : aH) : ev d 218 1020 [v0, v1, .ref x, v3] st S h = ev d 218 1021 [v0, v1, .ref x, v3] (.ref x :: st) S h := u_LdA rfl rfl d st S h
set_option maxRecDepth 50000 in
theorem u218_1021 (d : Nat) (v1 v2 v3 : Value) (x : Nat) (st : List Value) (S : aS) (h : aH) : ev d 218 1021 [.ref x, v1, v2, v3] st S h = ev d 218 1022 [.ref x, v1, v2, v3] (.ref x :: st) S h := u_LdA rfl rfl d st S h
set_option maxRecDepth 50000 in
theorem u218_1022 (d : Nat) (v0 v1 v2 : Value) (x : Int32) (st : List Value) (S : aS) (h : aH) : ev d 218 1022 [v0, v1, v2, .int x] st S h = ev d 218 1023 [v0, v1, v2, .int x] (.int x :: st) S h := u_LdI rfl rfl d st S h
set_option maxRecDepth 50000 in
theorem u218_1023 (d : Nat) (ls st : List Value) (S : aS) (h : aH) : ev d 218 1023 ls st S h = ev d 218 1024 ls (.int 1 :: st) S h := u_Push rfl d ls st S h
set_option maxRecDepth 50000 in
theorem u218_1024 (d : Nat) (ls : List Value) (y x : Int32) (st : List Value) (S : aS) (h : aH) : ev d 218 1024 ls (.int y :: .int x :: st) S h = ev d 218 1025 ls (.int (x + y) :: st) S h := u_II (f := fun x y => x + y) rfl d ls y x st S h
set_option maxRecDepth 50000 in
theorem u218_1025 (d : Nat) (ls : List Value) (i : Int32) (c : Nat) (st : List Value) (S : aS) (h : aH) : ev d 218 1025 ls (.int i :: .ref c :: st) S h = gd (aK S c = 100 ∨ aK S c = 200) (gd (inB i (aL S c)) (ev d 218 1026 ls (.int (h.1 c i.toNatClampNeg) :: st) S h)) := u_ALdI rfl d ls i c st S h
set_option maxRecDepth 50000 in
theorem u218_1026 (d : Nat) (ls : List Value) (a0 : Value) (c : Nat) (st : List Value) (S : aS) (h : aH) : ev (d + 1) 218 1026 ls (a0 :: .ref c :: st) S h = gd (aK S c = 11) (gd (cs st ≤ 8) ((call d 208 [.ref c, a0] S h).bind fun r => ev (d + 1) 218 1029 ls (r.1.toList ++ st) r.2.1 r.2.2)) := u_CalV1 (as := [a0]) rfl rfl d ls c st S h
set_option maxRecDepth 50000 in
theorem u218_1029 (d : Nat) (ls : List Value) (y x : Int32) (st : List Value) (S : aS) (h : aH) : ev d 218 1029 ls (.int y :: .int x :: st) S h = br (x = y) (ev d 218 1047 ls st S h) (ev d 218 1032 ls st S h) := u_Ic (P := fun x y => x = y) rfl d ls y x st S h
set_option maxRecDepth 50000 in
theorem u218_1032 (d : Nat) (ls st : List Value) (S : aS) (h : aH) : ev d 218 1032 ls st S h = ev d 218 1033 ls (.int 0 :: st) S h := u_Push rfl d ls st S h
set_option maxRecDepth 50000 in
theorem u218_1033 (d : Nat) (ls : List Value) (x : Int32) (S : aS) (h : aH) : ev d 218 1033 ls [.int x] S h = gd (vp_nar .boolean x = x) (some (some (.int x), S, h)) := u_RetN rfl d ls x S h
set_option maxRecDepth 50000 in
theorem u218_1034 (d : Nat) (v0 v2 v3 : Value) (x : Nat) (st : List Value) (S : aS) (h : aH) : ev d 218 1034 [v0, .ref x, v2, v3] st S h = ev d 218 1035 [v0, .ref x, v2, v3] (.ref x :: st) S h := u_LdA rfl rfl d st S h
set_option maxRecDepth 50000 in
theorem u218_1035 (d : Nat) (ls : List Value) (c : Nat) (st : List Value) (S : aS) (h : aH) : ev (d + 1) 218 1035 ls (.ref c :: st) S h = gd (aK S c = 10) (gd (cs st ≤ 8) ((call d 108 [.ref c] S h).bind fun r => ev (d + 1) 218 1038 ls (r.1.toList ++ st) r.2.1 r.2.2)) := u_CalV1 (as := []) rfl rfl d ls c st S h
set_option maxRecDepth 50000 in
theorem u218_1038 (d : Nat) (v0 v1 v3 : Value) (x : Nat) (st : List Value) (S : aS) (h : aH) : ev d 218 1038 [v0, v1, .ref x, v3] st S h = ev d 218 1039 [v0, v1, .ref x, v3] (.ref x :: st) S h := u_LdA rfl rfl d st S h
set_option maxRecDepth 50000 in
theorem u218_1039 (d : Nat) (ls : List Value) (c : Nat) (st : List Value) (S : aS) (h : aH) : ev (d + 1) 218 1039 ls (.ref c :: st) S h = gd (aK S c = 11) (gd (cs st ≤ 8) ((call d 209 [.ref c] S h).bind fun r => ev (d + 1) 218 1042 ls (r.1.toList ++ st) r.2.1 r.2.2)) := u_CalV1 (as := []) rfl rfl d ls c st S h
set_option maxRecDepth 50000 in
theorem u218_1042 (d : Nat) (ls : List Value) (y x : Int32) (st : List Value) (S : aS) (h : aH) : ev d 218 1042 ls (.int y :: .int x :: st) S h = br (x = y) (ev d 218 1047 ls st S h) (ev d 218 1045 ls st S h) := u_Ic (P := fun x y => x = y) rfl d ls y x st S h
set_option maxRecDepth 50000 in
theorem u218_1045 (d : Nat) (ls st : List Value) (S : aS) (h : aH) : ev d 218 1045 ls st S h = ev d 218 1046 ls (.int 0 :: st) S h := u_Push rfl d ls st S h
set_option maxRecDepth 50000 in
theorem u218_1046 (d : Nat) (ls : List Value) (x : Int32) (S : aS) (h : aH) : ev d 218 1046 ls [.int x] S h = gd (vp_nar .boolean x = x) (some (some (.int x), S, h)) := u_RetN rfl d ls x S h
set_option maxRecDepth 50000 in
theorem u218_1047 (d : Nat) (v0 v1 v2 : Value) (x : Int32) (st : List Value) (S : aS) (h : aH) : ev d 218 1047 [v0, v1, v2, .int x] st S h = ev d 218 1050 (lset1 [v0, v1, v2, .int x] 3 (.int (x + 6))) st S h := u_Inc rfl rfl d st S h
set_option maxRecDepth 50000 in
theorem u218_1050 (d : Nat) (ls st : List Value) (S : aS) (h : aH) : ev d 218 1050 ls st S h = ev d 218 18 ls st S h := u_Go rfl d ls st S h
set_option maxRecDepth 50000 in
theorem u218_1053 (d : Nat) (ls st : List Value) (S : aS) (h : aH) : ev d 218 1053 ls st S h = ev d 218 1054 ls (.int 1 :: st) S h := u_Push rfl d ls st S h
set_option maxRecDepth 50000 in
theorem u218_1054 (d : Nat) (ls : List Value) (x : Int32) (S : aS) (h : aH) : ev d 218 1054 ls [.int x] S h = gd (vp_nar .boolean x = x) (some (some (.int x), S, h)) := u_RetN rfl d ls x S h
set_option maxRecDepth 50000 in
theorem c218 (d : Nat) (x0 : Nat) (S : aS) (h : aH) : call d 218 [.ref x0] S h = ev d 218 0 [.ref x0, .null, .null, .null] [] S h := gd_pos (show 1 ≤ 4 by decide) _
