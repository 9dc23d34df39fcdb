theorem d131_0 : decode mt131.2.1 0 = .ok (.lload_n 0, 1) := by decide +kernel
theorem d131_1 : decode mt131.2.1 1 = .ok (.lload_n 2, 1) := by decide +kernel
theorem d131_2 : decode mt131.2.1 2 = .ok (.lcmp, 1) := by decide +kernel
theorem d131_3 : decode mt131.2.1 3 = .ok (.ifCond .lt 14, 3) := by decide +kernel
theorem d131_6 : decode mt131.2.1 6 = .ok (.lload_n 0, 1) := by decide +kernel
theorem d131_7 : decode mt131.2.1 7 = .ok (.lload 4, 2) := by decide +kernel
theorem d131_9 : decode mt131.2.1 9 = .ok (.lcmp, 1) := by decide +kernel
theorem d131_10 : decode mt131.2.1 10 = .ok (.ifCond .gt 7, 3) := by decide +kernel
theorem d131_13 : decode mt131.2.1 13 = .ok (.iconst 1, 1) := by decide +kernel
theorem d131_14 : decode mt131.2.1 14 = .ok (.goto 4, 3) := by decide +kernel
theorem d131_17 : decode mt131.2.1 17 = .ok (.iconst 0, 1) := by decide +kernel
theorem d131_18 : decode mt131.2.1 18 = .ok (.ireturn, 1) := by decide +kernel
noncomputable def pg131_0 : List (Nat × aP) := [(0, oLdL 0 1),
  (1, oLdL 2 2),
  (2, oLcmp 3),
  (3, oIf (fun x => x < 0) 17 6),
  (6, oLdL 0 7),
  (7, oLdL 4 9),
  (9, oLcmp 10),
  (10, oIf (fun x => 0 < x) 17 13),
  (13, oPush (.int 1) 14),
  (14, oGo 18),
  (17, oPush (.int 0) 18),
  (18, oRetN .boolean)]
theorem ok131_0 : ∀ q ∈ pg131_0, Sim mT mt131 q.1 q.2 ∧ Grow q.2 :=
  List.forall_mem_cons.mpr ⟨⟨sim_lload_n d131_0 rfl, gr_LdL 0 1⟩,
  List.forall_mem_cons.mpr ⟨⟨sim_lload_n d131_1 rfl, gr_LdL 2 2⟩,
  List.forall_mem_cons.mpr ⟨⟨sim_lcmp d131_2, gr_Lcmp 3⟩,
  List.forall_mem_cons.mpr ⟨⟨sim_if_lt d131_3 (by decide), gr_If (fun x => x < 0) 17 6⟩,
  List.forall_mem_cons.mpr ⟨⟨sim_lload_n d131_6 rfl, gr_LdL 0 7⟩,
  List.forall_mem_cons.mpr ⟨⟨sim_lload d131_7, gr_LdL 4 9⟩,
  List.forall_mem_cons.mpr ⟨⟨sim_lcmp d131_9, gr_Lcmp 10⟩,
  List.forall_mem_cons.mpr ⟨⟨sim_if_gt d131_10 (by decide), gr_If (fun x => 0 < x) 17 13⟩,
  List.forall_mem_cons.mpr ⟨⟨sim_iconst d131_13 (by decide), gr_Push (.int 1) 14⟩,
  List.forall_mem_cons.mpr ⟨⟨sim_goto d131_14 (by decide), gr_Go 18⟩,
  List.forall_mem_cons.mpr ⟨⟨sim_iconst d131_17 (by decide), gr_Push (.int 0) 18⟩,
  List.forall_mem_cons.mpr ⟨⟨sim_nreturn d131_18 rfl (fun _ h => congrArg Value.int h), gr_RetN .boolean⟩, fun _ h => absurd h List.not_mem_nil⟩⟩⟩⟩⟩⟩⟩⟩⟩⟩⟩⟩
noncomputable def pg131 : List (Nat × aP) := pg131_0
theorem ok131 : ∀ q ∈ pg131, Sim mT mt131 q.1 q.2 ∧ Grow q.2 := ok131_0
theorem d132_0 : decode mt132.2.1 0 = .ok (.aload_n 0, 1) := by decide +kernel
theorem d132_1 : decode mt132.2.1 1 = .ok (.iload_n 1, 1) := by decide +kernel
theorem d132_2 : decode mt132.2.1 2 = .ok (.putfield 78, 3) := by decide +kernel
theorem d132_5 : decode mt132.2.1 5 = .ok (.ldc 81, 2) := by decide +kernel
theorem d132_7 : decode mt132.2.1 7 = .ok (.iload_n 1, 1) := by decide +kernel
theorem d132_8 : decode mt132.2.1 8 = .ok (.isub, 1) := by decide +kernel
theorem d132_9 : decode mt132.2.1 9 = .ok (.ireturn, 1) := by decide +kernel
noncomputable def pg132_0 : List (Nat × aP) := [(0, oLdA 0 1),
  (1, oLdI 1 2),
  (2, oPutI (fun k => k = 11) 1 5),
  (5, oPush (.int (-1000010)) 7),
  (7, oLdI 1 8),
  (8, oII (fun x y => x - y) 9),
  (9, oRetI)]
theorem ok132_0 : ∀ q ∈ pg132_0, Sim mT mt132 q.1 q.2 ∧ Grow q.2 :=
  List.forall_mem_cons.mpr ⟨⟨sim_aload_n d132_0 rfl, gr_LdA 0 1⟩,
  List.forall_mem_cons.mpr ⟨⟨sim_iload_n d132_1 rfl, gr_LdI 1 2⟩,
  List.forall_mem_cons.mpr ⟨⟨sim_putI d132_2 gf154w, gr_PutI (fun k => k = 11) 1 5⟩,
  List.forall_mem_cons.mpr ⟨⟨sim_ldc d132_5 kw1047, gr_Push (.int (-1000010)) 7⟩,
  List.forall_mem_cons.mpr ⟨⟨sim_iload_n d132_7 rfl, gr_LdI 1 8⟩,
  List.forall_mem_cons.mpr ⟨⟨sim_isub d132_8, gr_II (fun x y => x - y) 9⟩,
  List.forall_mem_cons.mpr ⟨⟨sim_ireturn d132_9 rfl, gr_RetI⟩, fun _ h => absurd h List.not_mem_nil⟩⟩⟩⟩⟩⟩⟩
noncomputable def pg132 : List (Nat × aP) := pg132_0
theorem ok132 : ∀ q ∈ pg132, Sim mT mt132 q.1 q.2 ∧ Grow q.2 := ok132_0
theorem d133_0 : decode mt133.2.1 0 = .ok (.iload_n 0, 1) := by decide +kernel
theorem d133_1 : decode mt133.2.1 1 = .ok (.i2l, 1) := by decide +kernel
theorem d133_2 : decode mt133.2.1 2 = .ok (.lconst 0, 1) := by decide +kernel
theorem d133_3 : decode mt133.2.1 3 = .ok (.ldc2_w 82, 3) := by decide +kernel
theorem d133_6 : decode mt133.2.1 6 = .ok (.invokestatic 84, 3) := by decide +kernel
theorem d133_9 : decode mt133.2.1 9 = .ok (.ireturn, 1) := by decide +kernel
noncomputable def pg133_0 : List (Nat × aP) := [(0, oLdI 0 1),
  (1, oIL (fun x => x.toInt64) 2),
  (2, oPush (.long 0) 3),
  (3, oPush (.long 7) 6),
  (6, oCall 131 3 9),
  (9, oRetN .boolean)]
theorem ok133_0 : ∀ q ∈ pg133_0, Sim mT mt133 q.1 q.2 ∧ Grow q.2 :=
  List.forall_mem_cons.mpr ⟨⟨sim_iload_n d133_0 rfl, gr_LdI 0 1⟩,
  List.forall_mem_cons.mpr ⟨⟨sim_i2l d133_1, gr_IL (fun x => x.toInt64) 2⟩,
  List.forall_mem_cons.mpr ⟨⟨sim_lconst d133_2 (by decide), gr_Push (.long 0) 3⟩,
  List.forall_mem_cons.mpr ⟨⟨sim_ldc2 d133_3 kw1037, gr_Push (.long 7) 6⟩,
  List.forall_mem_cons.mpr ⟨⟨sim_static (y := 131) d133_6 (Or.inl kw1038) kw1039 mo131, gr_Call 131 3 9⟩,
  List.forall_mem_cons.mpr ⟨⟨sim_nreturn d133_9 rfl (fun _ h => congrArg Value.int h), gr_RetN .boolean⟩, fun _ h => absurd h List.not_mem_nil⟩⟩⟩⟩⟩⟩
noncomputable def pg133 : List (Nat × aP) := pg133_0
theorem ok133 : ∀ q ∈ pg133, Sim mT mt133 q.1 q.2 ∧ Grow q.2 := ok133_0
theorem d134_0 : decode mt134.2.1 0 = .ok (.aload_n 0, 1) := by decide +kernel
theorem d134_1 : decode mt134.2.1 1 = .ok (.iconst 0, 1) := by decide +kernel
theorem d134_2 : decode mt134.2.1 2 = .ok (.putfield 74, 3) := by decide +kernel
theorem d134_5 : decode mt134.2.1 5 = .ok (.iload_n 1, 1) := by decide +kernel
theorem d134_6 : decode mt134.2.1 6 = .ok (.invokestatic 88, 3) := by decide +kernel
theorem d134_9 : decode mt134.2.1 9 = .ok (.ifCond .eq 21, 3) := by decide +kernel
theorem d134_12 : decode mt134.2.1 12 = .ok (.iload_n 2, 1) := by decide +kernel
theorem d134_13 : decode mt134.2.1 13 = .ok (.i2l, 1) := by decide +kernel
theorem d134_14 : decode mt134.2.1 14 = .ok (.lconst 0, 1) := by decide +kernel
theorem d134_15 : decode mt134.2.1 15 = .ok (.ldc2_w 92, 3) := by decide +kernel
theorem d134_18 : decode mt134.2.1 18 = .ok (.invokestatic 84, 3) := by decide +kernel
theorem d134_21 : decode mt134.2.1 21 = .ok (.ifCond .eq 9, 3) := by decide +kernel
theorem d134_24 : decode mt134.2.1 24 = .ok (.iload_n 3, 1) := by decide +kernel
theorem d134_25 : decode mt134.2.1 25 = .ok (.bipush 40, 2) := by decide +kernel
theorem d134_27 : decode mt134.2.1 27 = .ok (.if_icmp .le 6, 3) := by decide +kernel
theorem d134_30 : decode mt134.2.1 30 = .ok (.ldc 94, 2) := by decide +kernel
theorem d134_32 : decode mt134.2.1 32 = .ok (.ireturn, 1) := by decide +kernel
theorem d134_33 : decode mt134.2.1 33 = .ok (.aload_n 0, 1) := by decide +kernel
theorem d134_34 : decode mt134.2.1 34 = .ok (.iconst 0, 1) := by decide +kernel
theorem d134_35 : decode mt134.2.1 35 = .ok (.putfield 78, 3) := by decide +kernel
theorem d134_38 : decode mt134.2.1 38 = .ok (.iload_n 3, 1) := by decide +kernel
theorem d134_39 : decode mt134.2.1 39 = .ok (.ifCond .ge 9, 3) := by decide +kernel
theorem d134_42 : decode mt134.2.1 42 = .ok (.aload_n 0, 1) := by decide +kernel
theorem d134_43 : decode mt134.2.1 43 = .ok (.iconst 4, 1) := by decide +kernel
theorem d134_44 : decode mt134.2.1 44 = .ok (.invokevirtual 95, 3) := by decide +kernel
theorem d134_47 : decode mt134.2.1 47 = .ok (.ireturn, 1) := by decide +kernel
theorem d134_48 : decode mt134.2.1 48 = .ok (.aload_n 0, 1) := by decide +kernel
theorem d134_49 : decode mt134.2.1 49 = .ok (.getfield 7, 3) := by decide +kernel
theorem d134_52 : decode mt134.2.1 52 = .ok (.iload_n 1, 1) := by decide +kernel
theorem d134_53 : decode mt134.2.1 53 = .ok (.iload_n 2, 1) := by decide +kernel
theorem d134_54 : decode mt134.2.1 54 = .ok (.iastore, 1) := by decide +kernel
theorem d134_55 : decode mt134.2.1 55 = .ok (.aload_n 0, 1) := by decide +kernel
theorem d134_56 : decode mt134.2.1 56 = .ok (.getfield 13, 3) := by decide +kernel
theorem d134_59 : decode mt134.2.1 59 = .ok (.iload_n 1, 1) := by decide +kernel
theorem d134_60 : decode mt134.2.1 60 = .ok (.iload_n 3, 1) := by decide +kernel
theorem d134_61 : decode mt134.2.1 61 = .ok (.iastore, 1) := by decide +kernel
theorem d134_62 : decode mt134.2.1 62 = .ok (.iconst 0, 1) := by decide +kernel
theorem d134_63 : decode mt134.2.1 63 = .ok (.istore 4, 2) := by decide +kernel
theorem d134_65 : decode mt134.2.1 65 = .ok (.iload 4, 2) := by decide +kernel
theorem d134_67 : decode mt134.2.1 67 = .ok (.bipush 40, 2) := by decide +kernel
theorem d134_69 : decode mt134.2.1 69 = .ok (.if_icmp .ge 22, 3) := by decide +kernel
theorem d134_72 : decode mt134.2.1 72 = .ok (.aload_n 0, 1) := by decide +kernel
theorem d134_73 : decode mt134.2.1 73 = .ok (.getfield 16, 3) := by decide +kernel
theorem d134_76 : decode mt134.2.1 76 = .ok (.bipush 40, 2) := by decide +kernel
theorem d134_78 : decode mt134.2.1 78 = .ok (.iload_n 1, 1) := by decide +kernel
theorem d134_79 : decode mt134.2.1 79 = .ok (.imul, 1) := by decide +kernel
theorem d134_80 : decode mt134.2.1 80 = .ok (.iload 4, 2) := by decide +kernel
theorem d134_82 : decode mt134.2.1 82 = .ok (.iadd, 1) := by decide +kernel
theorem d134_83 : decode mt134.2.1 83 = .ok (.iconst 0, 1) := by decide +kernel
theorem d134_84 : decode mt134.2.1 84 = .ok (.iastore, 1) := by decide +kernel
theorem d134_85 : decode mt134.2.1 85 = .ok (.iinc 4 1, 3) := by decide +kernel
theorem d134_88 : decode mt134.2.1 88 = .ok (.goto (-23), 3) := by decide +kernel
theorem d134_91 : decode mt134.2.1 91 = .ok (.iload_n 3, 1) := by decide +kernel
theorem d134_92 : decode mt134.2.1 92 = .ok (.ireturn, 1) := by decide +kernel
noncomputable def pg134_0 : List (Nat × aP) := [(0, oLdA 0 1),
  (1, oPush (.int 0) 2),
  (2, oPutI (fun k => k = 11) 0 5),
  (5, oLdI 1 6),
  (6, oCall 133 1 9),
  (9, oIf (fun x => x = 0) 30 12),
  (12, oLdI 2 13),
  (13, oIL (fun x => x.toInt64) 14),
  (14, oPush (.long 0) 15),
  (15, oPush (.long 2) 18),
  (18, oCall 131 3 21),
  (21, oIf (fun x => x = 0) 30 24),
  (24, oLdI 3 25),
  (25, oPush (.int 40) 27),
  (27, oIc (fun x y => x ≤ y) 33 30),
  (30, oPush (.int (-1000001)) 32),
  (32, oRetI),
  (33, oLdA 0 34),
  (34, oPush (.int 0) 35),
  (35, oPutI (fun k => k = 11) 1 38),
  (38, oLdI 3 39),
  (39, oIf (fun x => 0 ≤ x) 48 42),
  (42, oLdA 0 43),
  (43, oPush (.int 4) 44),
  (44, oCalV (fun k => if k = 11 then some 132 else none) 1 47),
  (47, oRetI),
  (48, oLdA 0 49),
  (49, oGetF (fun k => k = 11) 2 52),
  (52, oLdI 1 53),
  (53, oLdI 2 54),
  (54, oAStI 55),
  (55, oLdA 0 56),
  (56, oGetF (fun k => k = 11) 3 59),
  (59, oLdI 1 60),
  (60, oLdI 3 61),
  (61, oAStI 62),
  (62, oPush (.int 0) 63),
  (63, oStI 4 65),
  (65, oLdI 4 67),
  (67, oPush (.int 40) 69)]
theorem ok134_0 : ∀ q ∈ pg134_0, Sim mT mt134 q.1 q.2 ∧ Grow q.2 :=
  List.forall_mem_cons.mpr ⟨⟨sim_aload_n d134_0 rfl, gr_LdA 0 1⟩,
  List.forall_mem_cons.mpr ⟨⟨sim_iconst d134_1 (by decide), gr_Push (.int 0) 2⟩,
  List.forall_mem_cons.mpr ⟨⟨sim_putI d134_2 gf155w, gr_PutI (fun k => k = 11) 0 5⟩,
  List.forall_mem_cons.mpr ⟨⟨sim_iload_n d134_5 rfl, gr_LdI 1 6⟩,
  List.forall_mem_cons.mpr ⟨⟨sim_static (y := 133) d134_6 (Or.inl kw1034) kw1035 mo133, gr_Call 133 1 9⟩,
  List.forall_mem_cons.mpr ⟨⟨sim_if_eq d134_9 (by decide), gr_If (fun x => x = 0) 30 12⟩,
  List.forall_mem_cons.mpr ⟨⟨sim_iload_n d134_12 rfl, gr_LdI 2 13⟩,
  List.forall_mem_cons.mpr ⟨⟨sim_i2l d134_13, gr_IL (fun x => x.toInt64) 14⟩,
  List.forall_mem_cons.mpr ⟨⟨sim_lconst d134_14 (by decide), gr_Push (.long 0) 15⟩,
  List.forall_mem_cons.mpr ⟨⟨sim_ldc2 d134_15 kw1041, gr_Push (.long 2) 18⟩,
  List.forall_mem_cons.mpr ⟨⟨sim_static (y := 131) d134_18 (Or.inl kw1038) kw1039 mo131, gr_Call 131 3 21⟩,
  List.forall_mem_cons.mpr ⟨⟨sim_if_eq d134_21 (by decide), gr_If (fun x => x = 0) 30 24⟩,
  List.forall_mem_cons.mpr ⟨⟨sim_iload_n d134_24 rfl, gr_LdI 3 25⟩,
  List.forall_mem_cons.mpr ⟨⟨sim_bipush d134_25 (by decide), gr_Push (.int 40) 27⟩,
  List.forall_mem_cons.mpr ⟨⟨sim_icmp_le d134_27 (by decide), gr_Ic (fun x y => x ≤ y) 33 30⟩,
  List.forall_mem_cons.mpr ⟨⟨sim_ldc d134_30 kw1042, gr_Push (.int (-1000001)) 32⟩,
  List.forall_mem_cons.mpr ⟨⟨sim_ireturn d134_32 rfl, gr_RetI⟩,
  List.forall_mem_cons.mpr ⟨⟨sim_aload_n d134_33 rfl, gr_LdA 0 34⟩,
  List.forall_mem_cons.mpr ⟨⟨sim_iconst d134_34 (by decide), gr_Push (.int 0) 35⟩,
  List.forall_mem_cons.mpr ⟨⟨sim_putI d134_35 gf154w, gr_PutI (fun k => k = 11) 1 38⟩,
  List.forall_mem_cons.mpr ⟨⟨sim_iload_n d134_38 rfl, gr_LdI 3 39⟩,
  List.forall_mem_cons.mpr ⟨⟨sim_if_ge d134_39 (by decide), gr_If (fun x => 0 ≤ x) 48 42⟩,
  List.forall_mem_cons.mpr ⟨⟨sim_aload_n d134_42 rfl, gr_LdA 0 43⟩,
  List.forall_mem_cons.mpr ⟨⟨sim_iconst d134_43 (by decide), gr_Push (.int 4) 44⟩,
  List.forall_mem_cons.mpr ⟨⟨sim_virtual d134_44 vk99, gr_CalV (fun k => if k = 11 then some 132 else none) 1 47⟩,
  List.forall_mem_cons.mpr ⟨⟨sim_ireturn d134_47 rfl, gr_RetI⟩,
  List.forall_mem_cons.mpr ⟨⟨sim_aload_n d134_48 rfl, gr_LdA 0 49⟩,
  List.forall_mem_cons.mpr ⟨⟨sim_getF d134_49 gf156, gr_GetF (fun k => k = 11) 2 52⟩,
  List.forall_mem_cons.mpr ⟨⟨sim_iload_n d134_52 rfl, gr_LdI 1 53⟩,
  List.forall_mem_cons.mpr ⟨⟨sim_iload_n d134_53 rfl, gr_LdI 2 54⟩,
  List.forall_mem_cons.mpr ⟨⟨sim_iastore d134_54, gr_AStI 55⟩,
  List.forall_mem_cons.mpr ⟨⟨sim_aload_n d134_55 rfl, gr_LdA 0 56⟩,
  List.forall_mem_cons.mpr ⟨⟨sim_getF d134_56 gf157, gr_GetF (fun k => k = 11) 3 59⟩,
  List.forall_mem_cons.mpr ⟨⟨sim_iload_n d134_59 rfl, gr_LdI 1 60⟩,
  List.forall_mem_cons.mpr ⟨⟨sim_iload_n d134_60 rfl, gr_LdI 3 61⟩,
  List.forall_mem_cons.mpr ⟨⟨sim_iastore d134_61, gr_AStI 62⟩,
  List.forall_mem_cons.mpr ⟨⟨sim_iconst d134_62 (by decide), gr_Push (.int 0) 63⟩,
  List.forall_mem_cons.mpr ⟨⟨sim_istore d134_63 (by decide), gr_StI 4 65⟩,
  List.forall_mem_cons.mpr ⟨⟨sim_iload d134_65, gr_LdI 4 67⟩,
  List.forall_mem_cons.mpr ⟨⟨sim_bipush d134_67 (by decide), gr_Push (.int 40) 69⟩, fun _ h => absurd h List.not_mem_nil⟩⟩⟩⟩⟩⟩⟩⟩⟩⟩⟩⟩⟩⟩⟩⟩⟩⟩⟩⟩⟩⟩⟩⟩⟩⟩⟩⟩⟩⟩⟩⟩⟩⟩⟩⟩⟩⟩⟩⟩
noncomputable def pg134_1 : List (Nat × aP) := [(69, oIc (fun x y => y ≤ x) 91 72),
  (72, oLdA 0 73),
  (73, oGetF (fun k => k = 11) 4 76),
  (76, oPush (.int 40) 78),
  (78, oLdI 1 79),
  (79, oII (fun x y => x * y) 80),
  (80, oLdI 4 82),
  (82, oII (fun x y => x + y) 83),
  (83, oPush (.int 0) 84),
  (84, oAStI 85),
  (85, oInc 4 1 88),
  (88, oGo 65),
  (91, oLdI 3 92),
  (92, oRetI)]
theorem ok134_1 : ∀ q ∈ pg134_1, Sim mT mt134 q.1 q.2 ∧ Grow q.2 :=
  List.forall_mem_cons.mpr ⟨⟨sim_icmp_ge d134_69 (by decide), gr_Ic (fun x y => y ≤ x) 91 72⟩,
  List.forall_mem_cons.mpr ⟨⟨sim_aload_n d134_72 rfl, gr_LdA 0 73⟩,
  List.forall_mem_cons.mpr ⟨⟨sim_getF d134_73 gf158, gr_GetF (fun k => k = 11) 4 76⟩,
  List.forall_mem_cons.mpr ⟨⟨sim_bipush d134_76 (by decide), gr_Push (.int 40) 78⟩,
  List.forall_mem_cons.mpr ⟨⟨sim_iload_n d134_78 rfl, gr_LdI 1 79⟩,
  List.forall_mem_cons.mpr ⟨⟨sim_imul d134_79, gr_II (fun x y => x * y) 80⟩,
  List.forall_mem_cons.mpr ⟨⟨sim_iload d134_80, gr_LdI 4 82⟩,
  List.forall_mem_cons.mpr ⟨⟨sim_iadd d134_82, gr_II (fun x y => x + y) 83⟩,
  List.forall_mem_cons.mpr ⟨⟨sim_iconst d134_83 (by decide), gr_Push (.int 0) 84⟩,
  List.forall_mem_cons.mpr ⟨⟨sim_iastore d134_84, gr_AStI 85⟩,
  List.forall_mem_cons.mpr ⟨⟨sim_iinc d134_85 (by decide) (by decide), gr_Inc 4 1 88⟩,
  List.forall_mem_cons.mpr ⟨⟨sim_goto d134_88 (by decide), gr_Go 65⟩,
  List.forall_mem_cons.mpr ⟨⟨sim_iload_n d134_91 rfl, gr_LdI 3 92⟩,
  List.forall_mem_cons.mpr ⟨⟨sim_ireturn d134_92 rfl, gr_RetI⟩, fun _ h => absurd h List.not_mem_nil⟩⟩⟩⟩⟩⟩⟩⟩⟩⟩⟩⟩⟩⟩
noncomputable def pg134 : List (Nat × aP) := pg134_0 ++ (pg134_1)
theorem ok134 : ∀ q ∈ pg134, Sim mT mt134 q.1 q.2 ∧ Grow q.2 := List.forall_mem_append.mpr ⟨ok134_0, ok134_1⟩
theorem d135_0 : decode mt135.2.1 0 = .ok (.aload_n 0, 1) := by decide +kernel
theorem d135_1 : decode mt135.2.1 1 = .ok (.iconst 0, 1) := by decide +kernel
theorem d135_2 : decode mt135.2.1 2 = .ok (.putfield 74, 3) := by decide +kernel
theorem d135_5 : decode mt135.2.1 5 = .ok (.iload_n 1, 1) := by decide +kernel
theorem d135_6 : decode mt135.2.1 6 = .ok (.invokestatic 88, 3) := by decide +kernel
theorem d135_9 : decode mt135.2.1 9 = .ok (.ifCond .ne 6, 3) := by decide +kernel
theorem d135_12 : decode mt135.2.1 12 = .ok (.ldc 94, 2) := by decide +kernel
theorem d135_14 : decode mt135.2.1 14 = .ok (.ireturn, 1) := by decide +kernel
theorem d135_15 : decode mt135.2.1 15 = .ok (.aload_n 0, 1) := by decide +kernel
theorem d135_16 : decode mt135.2.1 16 = .ok (.iconst 0, 1) := by decide +kernel
theorem d135_17 : decode mt135.2.1 17 = .ok (.putfield 78, 3) := by decide +kernel
theorem d135_20 : decode mt135.2.1 20 = .ok (.aload_n 0, 1) := by decide +kernel
theorem d135_21 : decode mt135.2.1 21 = .ok (.getfield 7, 3) := by decide +kernel
theorem d135_24 : decode mt135.2.1 24 = .ok (.iload_n 1, 1) := by decide +kernel
theorem d135_25 : decode mt135.2.1 25 = .ok (.iaload, 1) := by decide +kernel
theorem d135_26 : decode mt135.2.1 26 = .ok (.ifCond .ge 9, 3) := by decide +kernel
theorem d135_29 : decode mt135.2.1 29 = .ok (.aload_n 0, 1) := by decide +kernel
theorem d135_30 : decode mt135.2.1 30 = .ok (.iconst 1, 1) := by decide +kernel
theorem d135_31 : decode mt135.2.1 31 = .ok (.invokevirtual 95, 3) := by decide +kernel
theorem d135_34 : decode mt135.2.1 34 = .ok (.ireturn, 1) := by decide +kernel
theorem d135_35 : decode mt135.2.1 35 = .ok (.iload_n 2, 1) := by decide +kernel
theorem d135_36 : decode mt135.2.1 36 = .ok (.i2l, 1) := by decide +kernel
theorem d135_37 : decode mt135.2.1 37 = .ok (.lconst 0, 1) := by decide +kernel
theorem d135_38 : decode mt135.2.1 38 = .ok (.aload_n 0, 1) := by decide +kernel
theorem d135_39 : decode mt135.2.1 39 = .ok (.getfield 13, 3) := by decide +kernel
theorem d135_42 : decode mt135.2.1 42 = .ok (.iload_n 1, 1) := by decide +kernel
theorem d135_43 : decode mt135.2.1 43 = .ok (.iaload, 1) := by decide +kernel
theorem d135_44 : decode mt135.2.1 44 = .ok (.iconst 1, 1) := by decide +kernel
theorem d135_45 : decode mt135.2.1 45 = .ok (.isub, 1) := by decide +kernel
theorem d135_46 : decode mt135.2.1 46 = .ok (.i2l, 1) := by decide +kernel
theorem d135_47 : decode mt135.2.1 47 = .ok (.invokestatic 84, 3) := by decide +kernel
theorem d135_50 : decode mt135.2.1 50 = .ok (.ifCond .ne 9, 3) := by decide +kernel
theorem d135_53 : decode mt135.2.1 53 = .ok (.aload_n 0, 1) := by decide +kernel
theorem d135_54 : decode mt135.2.1 54 = .ok (.iconst 2, 1) := by decide +kernel
theorem d135_55 : decode mt135.2.1 55 = .ok (.invokevirtual 95, 3) := by decide +kernel
theorem d135_58 : decode mt135.2.1 58 = .ok (.ireturn, 1) := by decide +kernel
theorem d135_59 : decode mt135.2.1 59 = .ok (.aload_n 0, 1) := by decide +kernel
theorem d135_60 : decode mt135.2.1 60 = .ok (.getfield 16, 3) := by decide +kernel
theorem d135_63 : decode mt135.2.1 63 = .ok (.bipush 40, 2) := by decide +kernel
theorem d135_65 : decode mt135.2.1 65 = .ok (.iload_n 1, 1) := by decide +kernel
theorem d135_66 : decode mt135.2.1 66 = .ok (.imul, 1) := by decide +kernel
theorem d135_67 : decode mt135.2.1 67 = .ok (.iload_n 2, 1) := by decide +kernel
theorem d135_68 : decode mt135.2.1 68 = .ok (.iadd, 1) := by decide +kernel
theorem d135_69 : decode mt135.2.1 69 = .ok (.aload_n 0, 1) := by decide +kernel
theorem d135_70 : decode mt135.2.1 70 = .ok (.getfield 7, 3) := by decide +kernel
theorem d135_73 : decode mt135.2.1 73 = .ok (.iload_n 1, 1) := by decide +kernel
theorem d135_74 : decode mt135.2.1 74 = .ok (.iaload, 1) := by decide +kernel
theorem d135_75 : decode mt135.2.1 75 = .ok (.ifCond .ne 8, 3) := by decide +kernel
theorem d135_78 : decode mt135.2.1 78 = .ok (.iload_n 3, 1) := by decide +kernel
theorem d135_79 : decode mt135.2.1 79 = .ok (.i2b, 1) := by decide +kernel
theorem d135_80 : decode mt135.2.1 80 = .ok (.goto 19, 3) := by decide +kernel
theorem d135_83 : decode mt135.2.1 83 = .ok (.aload_n 0, 1) := by decide +kernel
theorem d135_84 : decode mt135.2.1 84 = .ok (.getfield 7, 3) := by decide +kernel
theorem d135_87 : decode mt135.2.1 87 = .ok (.iload_n 1, 1) := by decide +kernel
theorem d135_88 : decode mt135.2.1 88 = .ok (.iaload, 1) := by decide +kernel
theorem d135_89 : decode mt135.2.1 89 = .ok (.iconst 1, 1) := by decide +kernel
theorem d135_90 : decode mt135.2.1 90 = .ok (.if_icmp .ne 8, 3) := by decide +kernel
theorem d135_93 : decode mt135.2.1 93 = .ok (.iload_n 3, 1) := by decide +kernel
theorem d135_94 : decode mt135.2.1 94 = .ok (.i2s, 1) := by decide +kernel
theorem d135_95 : decode mt135.2.1 95 = .ok (.goto 4, 3) := by decide +kernel
theorem d135_98 : decode mt135.2.1 98 = .ok (.iload_n 3, 1) := by decide +kernel
theorem d135_99 : decode mt135.2.1 99 = .ok (.iastore, 1) := by decide +kernel
theorem d135_100 : decode mt135.2.1 100 = .ok (.aload_n 0, 1) := by decide +kernel
theorem d135_101 : decode mt135.2.1 101 = .ok (.getfield 16, 3) := by decide +kernel
theorem d135_104 : decode mt135.2.1 104 = .ok (.bipush 40, 2) := by decide +kernel
theorem d135_106 : decode mt135.2.1 106 = .ok (.iload_n 1, 1) := by decide +kernel
theorem d135_107 : decode mt135.2.1 107 = .ok (.imul, 1) := by decide +kernel
theorem d135_108 : decode mt135.2.1 108 = .ok (.iload_n 2, 1) := by decide +kernel
theorem d135_109 : decode mt135.2.1 109 = .ok (.iadd, 1) := by decide +kernel
theorem d135_110 : decode mt135.2.1 110 = .ok (.iaload, 1) := by decide +kernel
theorem d135_111 : decode mt135.2.1 111 = .ok (.ireturn, 1) := by decide +kernel
noncomputable def pg135_0 : List (Nat × aP) := [(0, oLdA 0 1),
  (1, oPush (.int 0) 2),
  (2, oPutI (fun k => k = 11) 0 5),
  (5, oLdI 1 6),
  (6, oCall 133 1 9),
  (9, oIf (fun x => ¬ x = 0) 15 12),
  (12, oPush (.int (-1000001)) 14),
  (14, oRetI),
  (15, oLdA 0 16),
  (16, oPush (.int 0) 17),
  (17, oPutI (fun k => k = 11) 1 20),
  (20, oLdA 0 21),
  (21, oGetF (fun k => k = 11) 2 24),
  (24, oLdI 1 25),
  (25, oALdI 26),
  (26, oIf (fun x => 0 ≤ x) 35 29),
  (29, oLdA 0 30),
  (30, oPush (.int 1) 31),
  (31, oCalV (fun k => if k = 11 then some 132 else none) 1 34),
  (34, oRetI),
  (35, oLdI 2 36),
  (36, oIL (fun x => x.toInt64) 37),
  (37, oPush (.long 0) 38),
  (38, oLdA 0 39),
  (39, oGetF (fun k => k = 11) 3 42),
  (42, oLdI 1 43),
  (43, oALdI 44),
  (44, oPush (.int 1) 45),
  (45, oII (fun x y => x - y) 46),
  (46, oIL (fun x => x.toInt64) 47),
  (47, oCall 131 3 50),
  (50, oIf (fun x => ¬ x = 0) 59 53),
  (53, oLdA 0 54),
  (54, oPush (.int 2) 55),
  (55, oCalV (fun k => if k = 11 then some 132 else none) 1 58),
  (58, oRetI),
  (59, oLdA 0 60),
  (60, oGetF (fun k => k = 11) 4 63),
  (63, oPush (.int 40) 65),
  (65, oLdI 1 66)]
theorem ok135_0 : ∀ q ∈ pg135_0, Sim mT mt135 q.1 q.2 ∧ Grow q.2 :=
  List.forall_mem_cons.mpr ⟨⟨sim_aload_n d135_0 rfl, gr_LdA 0 1⟩,
  List.forall_mem_cons.mpr ⟨⟨sim_iconst d135_1 (by decide), gr_Push (.int 0) 2⟩,
  List.forall_mem_cons.mpr ⟨⟨sim_putI d135_2 gf155w, gr_PutI (fun k => k = 11) 0 5⟩,
  List.forall_mem_cons.mpr ⟨⟨sim_iload_n d135_5 rfl, gr_LdI 1 6⟩,
  List.forall_mem_cons.mpr ⟨⟨sim_static (y := 133) d135_6 (Or.inl kw1034) kw1035 mo133, gr_Call 133 1 9⟩,
  List.forall_mem_cons.mpr ⟨⟨sim_if_ne d135_9 (by decide), gr_If (fun x => ¬ x = 0) 15 12⟩,
  List.forall_mem_cons.mpr ⟨⟨sim_ldc d135_12 kw1042, gr_Push (.int (-1000001)) 14⟩,
  List.forall_mem_cons.mpr ⟨⟨sim_ireturn d135_14 rfl, gr_RetI⟩,
  List.forall_mem_cons.mpr ⟨⟨sim_aload_n d135_15 rfl, gr_LdA 0 16⟩,
  List.forall_mem_cons.mpr ⟨⟨sim_iconst d135_16 (by decide), gr_Push (.int 0) 17⟩,
  List.forall_mem_cons.mpr ⟨⟨sim_putI d135_17 gf154w, gr_PutI (fun k => k = 11) 1 20⟩,
  List.forall_mem_cons.mpr ⟨⟨sim_aload_n d135_20 rfl, gr_LdA 0 21⟩,
  List.forall_mem_cons.mpr ⟨⟨sim_getF d135_21 gf156, gr_GetF (fun k => k = 11) 2 24⟩,
  List.forall_mem_cons.mpr ⟨⟨sim_iload_n d135_24 rfl, gr_LdI 1 25⟩,
  List.forall_mem_cons.mpr ⟨⟨sim_iaload d135_25, gr_ALdI 26⟩,
  List.forall_mem_cons.mpr ⟨⟨sim_if_ge d135_26 (by decide), gr_If (fun x => 0 ≤ x) 35 29⟩,
  List.forall_mem_cons.mpr ⟨⟨sim_aload_n d135_29 rfl, gr_LdA 0 30⟩,
  List.forall_mem_cons.mpr ⟨⟨sim_iconst d135_30 (by decide), gr_Push (.int 1) 31⟩,
  List.forall_mem_cons.mpr ⟨⟨sim_virtual d135_31 vk99, gr_CalV (fun k => if k = 11 then some 132 else none) 1 34⟩,
  List.forall_mem_cons.mpr ⟨⟨sim_ireturn d135_34 rfl, gr_RetI⟩,
  List.forall_mem_cons.mpr ⟨⟨sim_iload_n d135_35 rfl, gr_LdI 2 36⟩,
  List.forall_mem_cons.mpr ⟨⟨sim_i2l d135_36, gr_IL (fun x => x.toInt64) 37⟩,
  List.forall_mem_cons.mpr ⟨⟨sim_lconst d135_37 (by decide), gr_Push (.long 0) 38⟩,
  List.forall_mem_cons.mpr ⟨⟨sim_aload_n d135_38 rfl, gr_LdA 0 39⟩,
  List.forall_mem_cons.mpr ⟨⟨sim_getF d135_39 gf157, gr_GetF (fun k => k = 11) 3 42⟩,
  List.forall_mem_cons.mpr ⟨⟨sim_iload_n d135_42 rfl, gr_LdI 1 43⟩,
  List.forall_mem_cons.mpr ⟨⟨sim_iaload d135_43, gr_ALdI 44⟩,
  List.forall_mem_cons.mpr ⟨⟨sim_iconst d135_44 (by decide), gr_Push (.int 1) 45⟩,
  List.forall_mem_cons.mpr ⟨⟨sim_isub d135_45, gr_II (fun x y => x - y) 46⟩,
  List.forall_mem_cons.mpr ⟨⟨sim_i2l d135_46, gr_IL (fun x => x.toInt64) 47⟩,
  List.forall_mem_cons.mpr ⟨⟨sim_static (y := 131) d135_47 (Or.inl kw1038) kw1039 mo131, gr_Call 131 3 50⟩,
  List.forall_mem_cons.mpr ⟨⟨sim_if_ne d135_50 (by decide), gr_If (fun x => ¬ x = 0) 59 53⟩,
  List.forall_mem_cons.mpr ⟨⟨sim_aload_n d135_53 rfl, gr_LdA 0 54⟩,
  List.forall_mem_cons.mpr ⟨⟨sim_iconst d135_54 (by decide), gr_Push (.int 2) 55⟩,
  List.forall_mem_cons.mpr ⟨⟨sim_virtual d135_55 vk99, gr_CalV (fun k => if k = 11 then some 132 else none) 1 58⟩,
  List.forall_mem_cons.mpr ⟨⟨sim_ireturn d135_58 rfl, gr_RetI⟩,
  List.forall_mem_cons.mpr ⟨⟨sim_aload_n d135_59 rfl, gr_LdA 0 60⟩,
  List.forall_mem_cons.mpr ⟨⟨sim_getF d135_60 gf158, gr_GetF (fun k => k = 11) 4 63⟩,
  List.forall_mem_cons.mpr ⟨⟨sim_bipush d135_63 (by decide), gr_Push (.int 40) 65⟩,
  List.forall_mem_cons.mpr ⟨⟨sim_iload_n d135_65 rfl, gr_LdI 1 66⟩, fun _ h => absurd h List.not_mem_nil⟩⟩⟩⟩⟩⟩⟩⟩⟩⟩⟩⟩⟩⟩⟩⟩⟩⟩⟩⟩⟩⟩⟩⟩⟩⟩⟩⟩⟩⟩⟩⟩⟩⟩⟩⟩⟩⟩⟩⟩
noncomputable def pg135_1 : List (Nat × aP) := [(66, oII (fun x y => x * y) 67),
  (67, oLdI 2 68),
  (68, oII (fun x y => x + y) 69),
  (69, oLdA 0 70),
  (70, oGetF (fun k => k = 11) 2 73),
  (73, oLdI 1 74),
  (74, oALdI 75),
  (75, oIf (fun x => ¬ x = 0) 83 78),
  (78, oLdI 3 79),
  (79, oI (fun x => x.toInt8.toInt32) 80),
  (80, oGo 99),
  (83, oLdA 0 84),
  (84, oGetF (fun k => k = 11) 2 87),
  (87, oLdI 1 88),
  (88, oALdI 89),
  (89, oPush (.int 1) 90),
  (90, oIc (fun x y => ¬ x = y) 98 93),
  (93, oLdI 3 94),
  (94, oI (fun x => x.toInt16.toInt32) 95),
  (95, oGo 99),
  (98, oLdI 3 99),
  (99, oAStI 100),
  (100, oLdA 0 101),
  (101, oGetF (fun k => k = 11) 4 104),
  (104, oPush (.int 40) 106),
  (106, oLdI 1 107),
  (107, oII (fun x y => x * y) 108),
  (108, oLdI 2 109),
  (109, oII (fun x y => x + y) 110),
  (110, oALdI 111),
  (111, oRetI)]
theorem ok135_1 : ∀ q ∈ pg135_1, Sim mT mt135 q.1 q.2 ∧ Grow q.2 :=
  List.forall_mem_cons.mpr ⟨⟨sim_imul d135_66, gr_II (fun x y => x * y) 67⟩,
  List.forall_mem_cons.mpr ⟨⟨sim_iload_n d135_67 rfl, gr_LdI 2 68⟩,
  List.forall_mem_cons.mpr ⟨⟨sim_iadd d135_68, gr_II (fun x y => x + y) 69⟩,
  List.forall_mem_cons.mpr ⟨⟨sim_aload_n d135_69 rfl, gr_LdA 0 70⟩,
  List.forall_mem_cons.mpr ⟨⟨sim_getF d135_70 gf156, gr_GetF (fun k => k = 11) 2 73⟩,
  List.forall_mem_cons.mpr ⟨⟨sim_iload_n d135_73 rfl, gr_LdI 1 74⟩,
  List.forall_mem_cons.mpr ⟨⟨sim_iaload d135_74, gr_ALdI 75⟩,
  List.forall_mem_cons.mpr ⟨⟨sim_if_ne d135_75 (by decide), gr_If (fun x => ¬ x = 0) 83 78⟩,
  List.forall_mem_cons.mpr ⟨⟨sim_iload_n d135_78 rfl, gr_LdI 3 79⟩,
  List.forall_mem_cons.mpr ⟨⟨sim_i2b d135_79, gr_I (fun x => x.toInt8.toInt32) 80⟩,
  List.forall_mem_cons.mpr ⟨⟨sim_goto d135_80 (by decide), gr_Go 99⟩,
  List.forall_mem_cons.mpr ⟨⟨sim_aload_n d135_83 rfl, gr_LdA 0 84⟩,
  List.forall_mem_cons.mpr ⟨⟨sim_getF d135_84 gf156, gr_GetF (fun k => k = 11) 2 87⟩,
  List.forall_mem_cons.mpr ⟨⟨sim_iload_n d135_87 rfl, gr_LdI 1 88⟩,
  List.forall_mem_cons.mpr ⟨⟨sim_iaload d135_88, gr_ALdI 89⟩,
  List.forall_mem_cons.mpr ⟨⟨sim_iconst d135_89 (by decide), gr_Push (.int 1) 90⟩,
  List.forall_mem_cons.mpr ⟨⟨sim_icmp_ne d135_90 (by decide), gr_Ic (fun x y => ¬ x = y) 98 93⟩,
  List.forall_mem_cons.mpr ⟨⟨sim_iload_n d135_93 rfl, gr_LdI 3 94⟩,
  List.forall_mem_cons.mpr ⟨⟨sim_i2s d135_94, gr_I (fun x => x.toInt16.toInt32) 95⟩,
  List.forall_mem_cons.mpr ⟨⟨sim_goto d135_95 (by decide), gr_Go 99⟩,
  List.forall_mem_cons.mpr ⟨⟨sim_iload_n d135_98 rfl, gr_LdI 3 99⟩,
  List.forall_mem_cons.mpr ⟨⟨sim_iastore d135_99, gr_AStI 100⟩,
  List.forall_mem_cons.mpr ⟨⟨sim_aload_n d135_100 rfl, gr_LdA 0 101⟩,
  List.forall_mem_cons.mpr ⟨⟨sim_getF d135_101 gf158, gr_GetF (fun k => k = 11) 4 104⟩,
  List.forall_mem_cons.mpr ⟨⟨sim_bipush d135_104 (by decide), gr_Push (.int 40) 106⟩,
  List.forall_mem_cons.mpr ⟨⟨sim_iload_n d135_106 rfl, gr_LdI 1 107⟩,
  List.forall_mem_cons.mpr ⟨⟨sim_imul d135_107, gr_II (fun x y => x * y) 108⟩,
  List.forall_mem_cons.mpr ⟨⟨sim_iload_n d135_108 rfl, gr_LdI 2 109⟩,
  List.forall_mem_cons.mpr ⟨⟨sim_iadd d135_109, gr_II (fun x y => x + y) 110⟩,
  List.forall_mem_cons.mpr ⟨⟨sim_iaload d135_110, gr_ALdI 111⟩,
  List.forall_mem_cons.mpr ⟨⟨sim_ireturn d135_111 rfl, gr_RetI⟩, fun _ h => absurd h List.not_mem_nil⟩⟩⟩⟩⟩⟩⟩⟩⟩⟩⟩⟩⟩⟩⟩⟩⟩⟩⟩⟩⟩⟩⟩⟩⟩⟩⟩⟩⟩⟩⟩
noncomputable def pg135 : List (Nat × aP) := pg135_0 ++ (pg135_1)
theorem ok135 : ∀ q ∈ pg135, Sim mT mt135 q.1 q.2 ∧ Grow q.2 := List.forall_mem_append.mpr ⟨ok135_0, ok135_1⟩
theorem d136_0 : decode mt136.2.1 0 = .ok (.aload_n 0, 1) := by decide +kernel
theorem d136_1 : decode mt136.2.1 1 = .ok (.iconst 0, 1) := by decide +kernel
theorem d136_2 : decode mt136.2.1 2 = .ok (.putfield 74, 3) := by decide +kernel
theorem d136_5 : decode mt136.2.1 5 = .ok (.iload_n 1, 1) := by decide +kernel
theorem d136_6 : decode mt136.2.1 6 = .ok (.invokestatic 88, 3) := by decide +kernel
theorem d136_9 : decode mt136.2.1 9 = .ok (.ifCond .eq 10, 3) := by decide +kernel
theorem d136_12 : decode mt136.2.1 12 = .ok (.iload_n 3, 1) := by decide +kernel
theorem d136_13 : decode mt136.2.1 13 = .ok (.invokestatic 88, 3) := by decide +kernel
theorem d136_16 : decode mt136.2.1 16 = .ok (.ifCond .ne 6, 3) := by decide +kernel
theorem d136_19 : decode mt136.2.1 19 = .ok (.ldc 94, 2) := by decide +kernel
theorem d136_21 : decode mt136.2.1 21 = .ok (.ireturn, 1) := by decide +kernel
theorem d136_22 : decode mt136.2.1 22 = .ok (.aload_n 0, 1) := by decide +kernel
theorem d136_23 : decode mt136.2.1 23 = .ok (.iconst 0, 1) := by decide +kernel
theorem d136_24 : decode mt136.2.1 24 = .ok (.putfield 78, 3) := by decide +kernel
theorem d136_27 : decode mt136.2.1 27 = .ok (.aload_n 0, 1) := by decide +kernel
theorem d136_28 : decode mt136.2.1 28 = .ok (.getfield 7, 3) := by decide +kernel
theorem d136_31 : decode mt136.2.1 31 = .ok (.iload_n 1, 1) := by decide +kernel
theorem d136_32 : decode mt136.2.1 32 = .ok (.iaload, 1) := by decide +kernel
theorem d136_33 : decode mt136.2.1 33 = .ok (.ifCond .lt 12, 3) := by decide +kernel
theorem d136_36 : decode mt136.2.1 36 = .ok (.aload_n 0, 1) := by decide +kernel
theorem d136_37 : decode mt136.2.1 37 = .ok (.getfield 7, 3) := by decide +kernel
theorem d136_40 : decode mt136.2.1 40 = .ok (.iload_n 3, 1) := by decide +kernel
theorem d136_41 : decode mt136.2.1 41 = .ok (.iaload, 1) := by decide +kernel
theorem d136_42 : decode mt136.2.1 42 = .ok (.ifCond .ge 9, 3) := by decide +kernel
theorem d136_45 : decode mt136.2.1 45 = .ok (.aload_n 0, 1) := by decide +kernel
theorem d136_46 : decode mt136.2.1 46 = .ok (.iconst 1, 1) := by decide +kernel
theorem d136_47 : decode mt136.2.1 47 = .ok (.invokevirtual 95, 3) := by decide +kernel
theorem d136_50 : decode mt136.2.1 50 = .ok (.ireturn, 1) := by decide +kernel
theorem d136_51 : decode mt136.2.1 51 = .ok (.aload_n 0, 1) := by decide +kernel
theorem d136_52 : decode mt136.2.1 52 = .ok (.getfield 7, 3) := by decide +kernel
theorem d136_55 : decode mt136.2.1 55 = .ok (.iload_n 1, 1) := by decide +kernel
theorem d136_56 : decode mt136.2.1 56 = .ok (.iaload, 1) := by decide +kernel
theorem d136_57 : decode mt136.2.1 57 = .ok (.aload_n 0, 1) := by decide +kernel
theorem d136_58 : decode mt136.2.1 58 = .ok (.getfield 7, 3) := by decide +kernel
theorem d136_61 : decode mt136.2.1 61 = .ok (.iload_n 3, 1) := by decide +kernel
theorem d136_62 : decode mt136.2.1 62 = .ok (.iaload, 1) := by decide +kernel
theorem d136_63 : decode mt136.2.1 63 = .ok (.if_icmp .eq 9, 3) := by decide +kernel
theorem d136_66 : decode mt136.2.1 66 = .ok (.aload_n 0, 1) := by decide +kernel
theorem d136_67 : decode mt136.2.1 67 = .ok (.iconst 5, 1) := by decide +kernel
theorem d136_68 : decode mt136.2.1 68 = .ok (.invokevirtual 95, 3) := by decide +kernel
theorem d136_71 : decode mt136.2.1 71 = .ok (.ireturn, 1) := by decide +kernel
theorem d136_72 : decode mt136.2.1 72 = .ok (.iload_n 2, 1) := by decide +kernel
theorem d136_73 : decode mt136.2.1 73 = .ok (.ifCond .lt 48, 3) := by decide +kernel
theorem d136_76 : decode mt136.2.1 76 = .ok (.iload 4, 2) := by decide +kernel
theorem d136_78 : decode mt136.2.1 78 = .ok (.ifCond .lt 43, 3) := by decide +kernel
theorem d136_81 : decode mt136.2.1 81 = .ok (.iload 5, 2) := by decide +kernel
theorem d136_83 : decode mt136.2.1 83 = .ok (.ifCond .lt 38, 3) := by decide +kernel
theorem d136_86 : decode mt136.2.1 86 = .ok (.iload_n 2, 1) := by decide +kernel
theorem d136_87 : decode mt136.2.1 87 = .ok (.i2l, 1) := by decide +kernel
theorem d136_88 : decode mt136.2.1 88 = .ok (.iload 5, 2) := by decide +kernel
theorem d136_90 : decode mt136.2.1 90 = .ok (.i2l, 1) := by decide +kernel
theorem d136_91 : decode mt136.2.1 91 = .ok (.ladd, 1) := by decide +kernel
theorem d136_92 : decode mt136.2.1 92 = .ok (.aload_n 0, 1) := by decide +kernel
theorem d136_93 : decode mt136.2.1 93 = .ok (.getfield 13, 3) := by decide +kernel
theorem d136_96 : decode mt136.2.1 96 = .ok (.iload_n 1, 1) := by decide +kernel
theorem d136_97 : decode mt136.2.1 97 = .ok (.iaload, 1) := by decide +kernel
theorem d136_98 : decode mt136.2.1 98 = .ok (.i2l, 1) := by decide +kernel
theorem d136_99 : decode mt136.2.1 99 = .ok (.lcmp, 1) := by decide +kernel
theorem d136_100 : decode mt136.2.1 100 = .ok (.ifCond .gt 21, 3) := by decide +kernel
theorem d136_103 : decode mt136.2.1 103 = .ok (.iload 4, 2) := by decide +kernel
theorem d136_105 : decode mt136.2.1 105 = .ok (.i2l, 1) := by decide +kernel
theorem d136_106 : decode mt136.2.1 106 = .ok (.iload 5, 2) := by decide +kernel
theorem d136_108 : decode mt136.2.1 108 = .ok (.i2l, 1) := by decide +kernel
theorem d136_109 : decode mt136.2.1 109 = .ok (.ladd, 1) := by decide +kernel
theorem d136_110 : decode mt136.2.1 110 = .ok (.aload_n 0, 1) := by decide +kernel
theorem d136_111 : decode mt136.2.1 111 = .ok (.getfield 13, 3) := by decide +kernel
theorem d136_114 : decode mt136.2.1 114 = .ok (.iload_n 3, 1) := by decide +kernel
theorem d136_115 : decode mt136.2.1 115 = .ok (.iaload, 1) := by decide +kernel
theorem d136_116 : decode mt136.2.1 116 = .ok (.i2l, 1) := by decide +kernel
theorem d136_117 : decode mt136.2.1 117 = .ok (.lcmp, 1) := by decide +kernel
theorem d136_118 : decode mt136.2.1 118 = .ok (.ifCond .le 9, 3) := by decide +kernel
theorem d136_121 : decode mt136.2.1 121 = .ok (.aload_n 0, 1) := by decide +kernel
theorem d136_122 : decode mt136.2.1 122 = .ok (.iconst 2, 1) := by decide +kernel
theorem d136_123 : decode mt136.2.1 123 = .ok (.invokevirtual 95, 3) := by decide +kernel
theorem d136_126 : decode mt136.2.1 126 = .ok (.ireturn, 1) := by decide +kernel
theorem d136_127 : decode mt136.2.1 127 = .ok (.iload_n 2, 1) := by decide +kernel
theorem d136_128 : decode mt136.2.1 128 = .ok (.iload 4, 2) := by decide +kernel
theorem d136_130 : decode mt136.2.1 130 = .ok (.if_icmp .lt 7, 3) := by decide +kernel
theorem d136_133 : decode mt136.2.1 133 = .ok (.iconst 1, 1) := by decide +kernel
theorem d136_134 : decode mt136.2.1 134 = .ok (.goto 4, 3) := by decide +kernel
theorem d136_137 : decode mt136.2.1 137 = .ok (.iconst 0, 1) := by decide +kernel
theorem d136_138 : decode mt136.2.1 138 = .ok (.istore 6, 2) := by decide +kernel
theorem d136_140 : decode mt136.2.1 140 = .ok (.iconst 0, 1) := by decide +kernel
theorem d136_141 : decode mt136.2.1 141 = .ok (.istore 7, 2) := by decide +kernel
theorem d136_143 : decode mt136.2.1 143 = .ok (.iload 7, 2) := by decide +kernel
theorem d136_145 : decode mt136.2.1 145 = .ok (.iload 5, 2) := by decide +kernel
theorem d136_147 : decode mt136.2.1 147 = .ok (.if_icmp .ge 57, 3) := by decide +kernel
theorem d136_150 : decode mt136.2.1 150 = .ok (.iload 6, 2) := by decide +kernel
theorem d136_152 : decode mt136.2.1 152 = .ok (.ifCond .eq 8, 3) := by decide +kernel
theorem d136_155 : decode mt136.2.1 155 = .ok (.iload 7, 2) := by decide +kernel
theorem d136_157 : decode mt136.2.1 157 = .ok (.goto 10, 3) := by decide +kernel
theorem d136_160 : decode mt136.2.1 160 = .ok (.iload 5, 2) := by decide +kernel
theorem d136_162 : decode mt136.2.1 162 = .ok (.iconst 1, 1) := by decide +kernel
theorem d136_163 : decode mt136.2.1 163 = .ok (.isub, 1) := by decide +kernel
theorem d136_164 : decode mt136.2.1 164 = .ok (.iload 7, 2) := by decide +kernel
theorem d136_166 : decode mt136.2.1 166 = .ok (.isub, 1) := by decide +kernel
theorem d136_167 : decode mt136.2.1 167 = .ok (.istore 8, 2) := by decide +kernel
theorem d136_169 : decode mt136.2.1 169 = .ok (.aload_n 0, 1) := by decide +kernel
theorem d136_170 : decode mt136.2.1 170 = .ok (.getfield 16, 3) := by decide +kernel
theorem d136_173 : decode mt136.2.1 173 = .ok (.bipush 40, 2) := by decide +kernel
theorem d136_175 : decode mt136.2.1 175 = .ok (.iload_n 3, 1) := by decide +kernel
theorem d136_176 : decode mt136.2.1 176 = .ok (.imul, 1) := by decide +kernel
theorem d136_177 : decode mt136.2.1 177 = .ok (.iload 4, 2) := by decide +kernel
theorem d136_179 : decode mt136.2.1 179 = .ok (.iadd, 1) := by decide +kernel
theorem d136_180 : decode mt136.2.1 180 = .ok (.iload 8, 2) := by decide +kernel
theorem d136_182 : decode mt136.2.1 182 = .ok (.iadd, 1) := by decide +kernel
theorem d136_183 : decode mt136.2.1 183 = .ok (.aload_n 0, 1) := by decide +kernel
theorem d136_184 : decode mt136.2.1 184 = .ok (.getfield 16, 3) := by decide +kernel
theorem d136_187 : decode mt136.2.1 187 = .ok (.bipush 40, 2) := by decide +kernel
theorem d136_189 : decode mt136.2.1 189 = .ok (.iload_n 1, 1) := by decide +kernel
theorem d136_190 : decode mt136.2.1 190 = .ok (.imul, 1) := by decide +kernel
theorem d136_191 : decode mt136.2.1 191 = .ok (.iload_n 2, 1) := by decide +kernel
theorem d136_192 : decode mt136.2.1 192 = .ok (.iadd, 1) := by decide +kernel
theorem d136_193 : decode mt136.2.1 193 = .ok (.iload 8, 2) := by decide +kernel
theorem d136_195 : decode mt136.2.1 195 = .ok (.iadd, 1) := by decide +kernel
theorem d136_196 : decode mt136.2.1 196 = .ok (.iaload, 1) := by decide +kernel
theorem d136_197 : decode mt136.2.1 197 = .ok (.iastore, 1) := by decide +kernel
theorem d136_198 : decode mt136.2.1 198 = .ok (.iinc 7 1, 3) := by decide +kernel
theorem d136_201 : decode mt136.2.1 201 = .ok (.goto (-58), 3) := by decide +kernel
theorem d136_204 : decode mt136.2.1 204 = .ok (.iload 5, 2) := by decide +kernel
theorem d136_206 : decode mt136.2.1 206 = .ok (.ireturn, 1) := by decide +kernel
noncomputable def pg136_0 : List (Nat × aP) := [(0, oLdA 0 1),
  (1, oPush (.int 0) 2),
  (2, oPutI (fun k => k = 11) 0 5),
  (5, oLdI 1 6),
  (6, oCall 133 1 9),
  (9, oIf (fun x => x = 0) 19 12),
  (12, oLdI 3 13),
  (13, oCall 133 1 16),
  (16, oIf (fun x => ¬ x = 0) 22 19),
  (19, oPush (.int (-1000001)) 21),
  (21, oRetI),
  (22, oLdA 0 23),
  (23, oPush (.int 0) 24),
  (24, oPutI (fun k => k = 11) 1 27),
  (27, oLdA 0 28),
  (28, oGetF (fun k => k = 11) 2 31),
  (31, oLdI 1 32),
  (32, oALdI 33),
  (33, oIf (fun x => x < 0) 45 36),
  (36, oLdA 0 37),
  (37, oGetF (fun k => k = 11) 2 40),
  (40, oLdI 3 41),
  (41, oALdI 42),
  (42, oIf (fun x => 0 ≤ x) 51 45),
  (45, oLdA 0 46),
  (46, oPush (.int 1) 47),
  (47, oCalV (fun k => if k = 11 then some 132 else none) 1 50),
  (50, oRetI),
  (51, oLdA 0 52),
  (52, oGetF (fun k => k = 11) 2 55),
  (55, oLdI 1 56),
  (56, oALdI 57),
  (57, oLdA 0 58),
  (58, oGetF (fun k => k = 11) 2 61),
  (61, oLdI 3 62),
  (62, oALdI 63),
  (63, oIc (fun x y => x = y) 72 66),
  (66, oLdA 0 67),
  (67, oPush (.int 5) 68),
  (68, oCalV (fun k => if k = 11 then some 132 else none) 1 71)]
theorem ok136_0 : ∀ q ∈ pg136_0, Sim mT mt136 q.1 q.2 ∧ Grow q.2 :=
  List.forall_mem_cons.mpr ⟨⟨sim_aload_n d136_0 rfl, gr_LdA 0 1⟩,
  List.forall_mem_cons.mpr ⟨⟨sim_iconst d136_1 (by decide), gr_Push (.int 0) 2⟩,
  List.forall_mem_cons.mpr ⟨⟨sim_putI d136_2 gf155w, gr_PutI (fun k => k = 11) 0 5⟩,
  List.forall_mem_cons.mpr ⟨⟨sim_iload_n d136_5 rfl, gr_LdI 1 6⟩,
  List.forall_mem_cons.mpr ⟨⟨sim_static (y := 133) d136_6 (Or.inl kw1034) kw1035 mo133, gr_Call 133 1 9⟩,
  List.forall_mem_cons.mpr ⟨⟨sim_if_eq d136_9 (by decide), gr_If (fun x => x = 0) 19 12⟩,
  List.forall_mem_cons.mpr ⟨⟨sim_iload_n d136_12 rfl, gr_LdI 3 13⟩,
  List.forall_mem_cons.mpr ⟨⟨sim_static (y := 133) d136_13 (Or.inl kw1034) kw1035 mo133, gr_Call 133 1 16⟩,
  List.forall_mem_cons.mpr ⟨⟨sim_if_ne d136_16 (by decide), gr_If (fun x => ¬ x = 0) 22 19⟩,
  List.forall_mem_cons.mpr ⟨⟨sim_ldc d136_19 kw1042, gr_Push (.int (-1000001)) 21⟩,
  List.forall_mem_cons.mpr ⟨⟨sim_ireturn d136_21 rfl, gr_RetI⟩,
  List.forall_mem_cons.mpr ⟨⟨sim_aload_n d136_22 rfl, gr_LdA 0 23⟩,
  List.forall_mem_cons.mpr ⟨⟨sim_iconst d136_23 (by decide), gr_Push (.int 0) 24⟩,
  List.forall_mem_cons.mpr ⟨⟨sim_putI d136_24 gf154w, gr_PutI (fun k => k = 11) 1 27⟩,
  List.forall_mem_cons.mpr ⟨⟨sim_aload_n d136_27 rfl, gr_LdA 0 28⟩,
  List.forall_mem_cons.mpr ⟨⟨sim_getF d136_28 gf156, gr_GetF (fun k => k = 11) 2 31⟩,
  List.forall_mem_cons.mpr ⟨⟨sim_iload_n d136_31 rfl, gr_LdI 1 32⟩,
  List.forall_mem_cons.mpr ⟨⟨sim_iaload d136_32, gr_ALdI 33⟩,
  List.forall_mem_cons.mpr ⟨⟨sim_if_lt d136_33 (by decide), gr_If (fun x => x < 0) 45 36⟩,
  List.forall_mem_cons.mpr ⟨⟨sim_aload_n d136_36 rfl, gr_LdA 0 37⟩,
  List.forall_mem_cons.mpr ⟨⟨sim_getF d136_37 gf156, gr_GetF (fun k => k = 11) 2 40⟩,
  List.forall_mem_cons.mpr ⟨⟨sim_iload_n d136_40 rfl, gr_LdI 3 41⟩,
  List.forall_mem_cons.mpr ⟨⟨sim_iaload d136_41, gr_ALdI 42⟩,
  List.forall_mem_cons.mpr ⟨⟨sim_if_ge d136_42 (by decide), gr_If (fun x => 0 ≤ x) 51 45⟩,
  List.forall_mem_cons.mpr ⟨⟨sim_aload_n d136_45 rfl, gr_LdA 0 46⟩,
  List.forall_mem_cons.mpr ⟨⟨sim_iconst d136_46 (by decide), gr_Push (.int 1) 47⟩,
  List.forall_mem_cons.mpr ⟨⟨sim_virtual d136_47 vk99, gr_CalV (fun k => if k = 11 then some 132 else none) 1 50⟩,
  List.forall_mem_cons.mpr ⟨⟨sim_ireturn d136_50 rfl, gr_RetI⟩,
  List.forall_mem_cons.mpr ⟨⟨sim_aload_n d136_51 rfl, gr_LdA 0 52⟩,
  List.forall_mem_cons.mpr ⟨⟨sim_getF d136_52 gf156, gr_GetF (fun k => k = 11) 2 55⟩,
  List.forall_mem_cons.mpr ⟨⟨sim_iload_n d136_55 rfl, gr_LdI 1 56⟩,
  List.forall_mem_cons.mpr ⟨⟨sim_iaload d136_56, gr_ALdI 57⟩,
  List.forall_mem_cons.mpr ⟨⟨sim_aload_n d136_57 rfl, gr_LdA 0 58⟩,
  List.forall_mem_cons.mpr ⟨⟨sim_getF d136_58 gf156, gr_GetF (fun k => k = 11) 2 61⟩,
  List.forall_mem_cons.mpr ⟨⟨sim_iload_n d136_61 rfl, gr_LdI 3 62⟩,
  List.forall_mem_cons.mpr ⟨⟨sim_iaload d136_62, gr_ALdI 63⟩,
  List.forall_mem_cons.mpr ⟨⟨sim_icmp_eq d136_63 (by decide), gr_Ic (fun x y => x = y) 72 66⟩,
  List.forall_mem_cons.mpr ⟨⟨sim_aload_n d136_66 rfl, gr_LdA 0 67⟩,
  List.forall_mem_cons.mpr ⟨⟨sim_iconst d136_67 (by decide), gr_Push (.int 5) 68⟩,
  List.forall_mem_cons.mpr ⟨⟨sim_virtual d136_68 vk99, gr_CalV (fun k => if k = 11 then some 132 else none) 1 71⟩, fun _ h => absurd h List.not_mem_nil⟩⟩⟩⟩⟩⟩⟩⟩⟩⟩⟩⟩⟩⟩⟩⟩⟩⟩⟩⟩⟩⟩⟩⟩⟩⟩⟩⟩⟩⟩⟩⟩⟩⟩⟩⟩⟩⟩⟩⟩
noncomputable def pg136_1 : List (Nat × aP) := [(71, oRetI),
  (72, oLdI 2 73),
  (73, oIf (fun x => x < 0) 121 76),
  (76, oLdI 4 78),
  (78, oIf (fun x => x < 0) 121 81),
  (81, oLdI 5 83),
  (83, oIf (fun x => x < 0) 121 86),
  (86, oLdI 2 87),
  (87, oIL (fun x => x.toInt64) 88),
  (88, oLdI 5 90),
  (90, oIL (fun x => x.toInt64) 91),
  (91, oLL (fun x y => x + y) 92),
  (92, oLdA 0 93),
  (93, oGetF (fun k => k = 11) 3 96),
  (96, oLdI 1 97),
  (97, oALdI 98),
  (98, oIL (fun x => x.toInt64) 99),
  (99, oLcmp 100),
  (100, oIf (fun x => 0 < x) 121 103),
  (103, oLdI 4 105),
  (105, oIL (fun x => x.toInt64) 106),
  (106, oLdI 5 108),
  (108, oIL (fun x => x.toInt64) 109),
  (109, oLL (fun x y => x + y) 110),
  (110, oLdA 0 111),
  (111, oGetF (fun k => k = 11) 3 114),
  (114, oLdI 3 115),
  (115, oALdI 116),
  (116, oIL (fun x => x.toInt64) 117),
  (117, oLcmp 118),
  (118, oIf (fun x => x ≤ 0) 127 121),
  (121, oLdA 0 122),
  (122, oPush (.int 2) 123),
  (123, oCalV (fun k => if k = 11 then some 132 else none) 1 126),
  (126, oRetI),
  (127, oLdI 2 128),
  (128, oLdI 4 130),
  (130, oIc (fun x y => x < y) 137 133),
  (133, oPush (.int 1) 134),
  (134, oGo 138)]
theorem ok136_1 : ∀ q ∈ pg136_1, Sim mT mt136 q.1 q.2 ∧ Grow q.2 :=
  List.forall_mem_cons.mpr ⟨⟨sim_ireturn d136_71 rfl, gr_RetI⟩,
  List.forall_mem_cons.mpr ⟨⟨sim_iload_n d136_72 rfl, gr_LdI 2 73⟩,
  List.forall_mem_cons.mpr ⟨⟨sim_if_lt d136_73 (by decide), gr_If (fun x => x < 0) 121 76⟩,
  List.forall_mem_cons.mpr ⟨⟨sim_iload d136_76, gr_LdI 4 78⟩,
  List.forall_mem_cons.mpr ⟨⟨sim_if_lt d136_78 (by decide), gr_If (fun x => x < 0) 121 81⟩,
  List.forall_mem_cons.mpr ⟨⟨sim_iload d136_81, gr_LdI 5 83⟩,
  List.forall_mem_cons.mpr ⟨⟨sim_if_lt d136_83 (by decide), gr_If (fun x => x < 0) 121 86⟩,
  List.forall_mem_cons.mpr ⟨⟨sim_iload_n d136_86 rfl, gr_LdI 2 87⟩,
  List.forall_mem_cons.mpr ⟨⟨sim_i2l d136_87, gr_IL (fun x => x.toInt64) 88⟩,
  List.forall_mem_cons.mpr ⟨⟨sim_iload d136_88, gr_LdI 5 90⟩,
  List.forall_mem_cons.mpr ⟨⟨sim_i2l d136_90, gr_IL (fun x => x.toInt64) 91⟩,
  List.forall_mem_cons.mpr ⟨⟨sim_ladd d136_91, gr_LL (fun x y => x + y) 92⟩,
  List.forall_mem_cons.mpr ⟨⟨sim_aload_n d136_92 rfl, gr_LdA 0 93⟩,
  List.forall_mem_cons.mpr ⟨⟨sim_getF d136_93 gf157, gr_GetF (fun k => k = 11) 3 96⟩,
  List.forall_mem_cons.mpr ⟨⟨sim_iload_n d136_96 rfl, gr_LdI 1 97⟩,
  List.forall_mem_cons.mpr ⟨⟨sim_iaload d136_97, gr_ALdI 98⟩,
  List.forall_mem_cons.mpr ⟨⟨sim_i2l d136_98, gr_IL (fun x => x.toInt64) 99⟩,
  List.forall_mem_cons.mpr ⟨⟨sim_lcmp d136_99, gr_Lcmp 100⟩,
  List.forall_mem_cons.mpr ⟨⟨sim_if_gt d136_100 (by decide), gr_If (fun x => 0 < x) 121 103⟩,
  List.forall_mem_cons.mpr ⟨⟨sim_iload d136_103, gr_LdI 4 105⟩,
  List.forall_mem_cons.mpr ⟨⟨sim_i2l d136_105, gr_IL (fun x => x.toInt64) 106⟩,
  List.forall_mem_cons.mpr ⟨⟨sim_iload d136_106, gr_LdI 5 108⟩,
  List.forall_mem_cons.mpr ⟨⟨sim_i2l d136_108, gr_IL (fun x => x.toInt64) 109⟩,
  List.forall_mem_cons.mpr ⟨⟨sim_ladd d136_109, gr_LL (fun x y => x + y) 110⟩,
  List.forall_mem_cons.mpr ⟨⟨sim_aload_n d136_110 rfl, gr_LdA 0 111⟩,
  List.forall_mem_cons.mpr ⟨⟨sim_getF d136_111 gf157, gr_GetF (fun k => k = 11) 3 114⟩,
  List.forall_mem_cons.mpr ⟨⟨sim_iload_n d136_114 rfl, gr_LdI 3 115⟩,
  List.forall_mem_cons.mpr ⟨⟨sim_iaload d136_115, gr_ALdI 116⟩,
  List.forall_mem_cons.mpr ⟨⟨sim_i2l d136_116, gr_IL (fun x => x.toInt64) 117⟩,
  List.forall_mem_cons.mpr ⟨⟨sim_lcmp d136_117, gr_Lcmp 118⟩,
  List.forall_mem_cons.mpr ⟨⟨sim_if_le d136_118 (by decide), gr_If (fun x => x ≤ 0) 127 121⟩,
  List.forall_mem_cons.mpr ⟨⟨sim_aload_n d136_121 rfl, gr_LdA 0 122⟩,
  List.forall_mem_cons.mpr ⟨⟨sim_iconst d136_122 (by decide), gr_Push (.int 2) 123⟩,
  List.forall_mem_cons.mpr ⟨⟨sim_virtual d136_123 vk99, gr_CalV (fun k => if k = 11 then some 132 else none) 1 126⟩,
  List.forall_mem_cons.mpr ⟨⟨sim_ireturn d136_126 rfl, gr_RetI⟩,
  List.forall_mem_cons.mpr ⟨⟨sim_iload_n d136_127 rfl, gr_LdI 2 128⟩,
  List.forall_mem_cons.mpr ⟨⟨sim_iload d136_128, gr_LdI 4 130⟩,
  List.forall_mem_cons.mpr ⟨⟨sim_icmp_lt d136_130 (by decide), gr_Ic (fun x y => x < y) 137 133⟩,
  List.forall_mem_cons.mpr ⟨⟨sim_iconst d136_133 (by decide), gr_Push (.int 1) 134⟩,
  List.forall_mem_cons.mpr ⟨⟨sim_goto d136_134 (by decide), gr_Go 138⟩, fun _ h => absurd h List.not_mem_nil⟩⟩⟩⟩⟩⟩⟩⟩⟩⟩⟩⟩⟩⟩⟩⟩⟩⟩⟩⟩⟩⟩⟩⟩⟩⟩⟩⟩⟩⟩⟩⟩⟩⟩⟩⟩⟩⟩⟩⟩
noncomputable def pg136_2 : List (Nat × aP) := [(137, oPush (.int 0) 138),
  (138, oStI 6 140),
  (140, oPush (.int 0) 141),
  (141, oStI 7 143),
  (143, oLdI 7 145),
  (145, oLdI 5 147),
  (147, oIc (fun x y => y ≤ x) 204 150),
  (150, oLdI 6 152),
  (152, oIf (fun x => x = 0) 160 155),
  (155, oLdI 7 157),
  (157, oGo 167),
  (160, oLdI 5 162),
  (162, oPush (.int 1) 163),
  (163, oII (fun x y => x - y) 164),
  (164, oLdI 7 166),
  (166, oII (fun x y => x - y) 167),
  (167, oStI 8 169),
  (169, oLdA 0 170),
  (170, oGetF (fun k => k = 11) 4 173),
  (173, oPush (.int 40) 175),
  (175, oLdI 3 176),
  (176, oII (fun x y => x * y) 177),
  (177, oLdI 4 179),
  (179, oII (fun x y => x + y) 180),
  (180, oLdI 8 182),
  (182, oII (fun x y => x + y) 183),
  (183, oLdA 0 184),
  (184, oGetF (fun k => k = 11) 4 187),
  (187, oPush (.int 40) 189),
  (189, oLdI 1 190),
  (190, oII (fun x y => x * y) 191),
  (191, oLdI 2 192),
  (192, oII (fun x y => x + y) 193),
  (193, oLdI 8 195),
  (195, oII (fun x y => x + y) 196),
  (196, oALdI 197),
  (197, oAStI 198),
  (198, oInc 7 1 201),
  (201, oGo 143),
  (204, oLdI 5 206)]
theorem ok136_2 : ∀ q ∈ pg136_2, Sim mT mt136 q.1 q.2 ∧ Grow q.2 :=
  List.forall_mem_cons.mpr ⟨⟨sim_iconst d136_137 (by decide), gr_Push (.int 0) 138⟩,
  List.forall_mem_cons.mpr ⟨⟨sim_istore d136_138 (by decide), gr_StI 6 140⟩,
  List.forall_mem_cons.mpr ⟨⟨sim_iconst d136_140 (by decide), gr_Push (.int 0) 141⟩,
  List.forall_mem_cons.mpr ⟨⟨sim_istore d136_141 (by decide), gr_StI 7 143⟩,
  List.forall_mem_cons.mpr ⟨⟨sim_iload d136_143, gr_LdI 7 145⟩,
  List.forall_mem_cons.mpr ⟨⟨sim_iload d136_145, gr_LdI 5 147⟩,
  List.forall_mem_cons.mpr ⟨⟨sim_icmp_ge d136_147 (by decide), gr_Ic (fun x y => y ≤ x) 204 150⟩,
  List.forall_mem_cons.mpr ⟨⟨sim_iload d136_150, gr_LdI 6 152⟩,
  List.forall_mem_cons.mpr ⟨⟨sim_if_eq d136_152 (by decide), gr_If (fun x => x = 0) 160 155⟩,
  List.forall_mem_cons.mpr ⟨⟨sim_iload d136_155, gr_LdI 7 157⟩,
  List.forall_mem_cons.mpr ⟨⟨sim_goto d136_157 (by decide), gr_Go 167⟩,
  List.forall_mem_cons.mpr ⟨⟨sim_iload d136_160, gr_LdI 5 162⟩,
  List.forall_mem_cons.mpr ⟨⟨sim_iconst d136_162 (by decide), gr_Push (.int 1) 163⟩,
  List.forall_mem_cons.mpr ⟨⟨sim_isub d136_163, gr_II (fun x y => x - y) 164⟩,
  List.forall_mem_cons.mpr ⟨⟨sim_iload d136_164, gr_LdI 7 166⟩,
  List.forall_mem_cons.mpr ⟨⟨sim_isub d136_166, gr_II (fun x y => x - y) 167⟩,
  List.forall_mem_cons.mpr ⟨⟨sim_istore d136_167 (by decide), gr_StI 8 169⟩,
  List.forall_mem_cons.mpr ⟨⟨sim_aload_n d136_169 rfl, gr_LdA 0 170⟩,
  List.forall_mem_cons.mpr ⟨⟨sim_getF d136_170 gf158, gr_GetF (fun k => k = 11) 4 173⟩,
  List.forall_mem_cons.mpr ⟨⟨sim_bipush d136_173 (by decide), gr_Push (.int 40) 175⟩,
  List.forall_mem_cons.mpr ⟨⟨sim_iload_n d136_175 rfl, gr_LdI 3 176⟩,
  List.forall_mem_cons.mpr ⟨⟨sim_imul d136_176, gr_II (fun x y => x * y) 177⟩,
  List.forall_mem_cons.mpr ⟨⟨sim_iload d136_177, gr_LdI 4 179⟩,
  List.forall_mem_cons.mpr ⟨⟨sim_iadd d136_179, gr_II (fun x y => x + y) 180⟩,
  List.forall_mem_cons.mpr ⟨⟨sim_iload d136_180, gr_LdI 8 182⟩,
  List.forall_mem_cons.mpr ⟨⟨sim_iadd d136_182, gr_II (fun x y => x + y) 183⟩,
  List.forall_mem_cons.mpr ⟨⟨sim_aload_n d136_183 rfl, gr_LdA 0 184⟩,
  List.forall_mem_cons.mpr ⟨⟨sim_getF d136_184 gf158, gr_GetF (fun k => k = 11) 4 187⟩,
  List.forall_mem_cons.mpr ⟨⟨sim_bipush d136_187 (by decide), gr_Push (.int 40) 189⟩,
  List.forall_mem_cons.mpr ⟨⟨sim_iload_n d136_189 rfl, gr_LdI 1 190⟩,
  List.forall_mem_cons.mpr ⟨⟨sim_imul d136_190, gr_II (fun x y => x * y) 191⟩,
  List.forall_mem_cons.mpr ⟨⟨sim_iload_n d136_191 rfl, gr_LdI 2 192⟩,
  List.forall_mem_cons.mpr ⟨⟨sim_iadd d136_192, gr_II (fun x y => x + y) 193⟩,
  List.forall_mem_cons.mpr ⟨⟨sim_iload d136_193, gr_LdI 8 195⟩,
  List.forall_mem_cons.mpr ⟨⟨sim_iadd d136_195, gr_II (fun x y => x + y) 196⟩,
  List.forall_mem_cons.mpr ⟨⟨sim_iaload d136_196, gr_ALdI 197⟩,
  List.forall_mem_cons.mpr ⟨⟨sim_iastore d136_197, gr_AStI 198⟩,
  List.forall_mem_cons.mpr ⟨⟨sim_iinc d136_198 (by decide) (by decide), gr_Inc 7 1 201⟩,
  List.forall_mem_cons.mpr ⟨⟨sim_goto d136_201 (by decide), gr_Go 143⟩,
  List.forall_mem_cons.mpr ⟨⟨sim_iload d136_204, gr_LdI 5 206⟩, fun _ h => absurd h List.not_mem_nil⟩⟩⟩⟩⟩⟩⟩⟩⟩⟩⟩⟩⟩⟩⟩⟩⟩⟩⟩⟩⟩⟩⟩⟩⟩⟩⟩⟩⟩⟩⟩⟩⟩⟩⟩⟩⟩⟩⟩⟩
noncomputable def pg136_3 : List (Nat × aP) := [(206, oRetI)]
theorem ok136_3 : ∀ q ∈ pg136_3, Sim mT mt136 q.1 q.2 ∧ Grow q.2 :=
  List.forall_mem_cons.mpr ⟨⟨sim_ireturn d136_206 rfl, gr_RetI⟩, fun _ h => absurd h List.not_mem_nil⟩
noncomputable def pg136 : List (Nat × aP) := pg136_0 ++ (pg136_1 ++ (pg136_2 ++ (pg136_3)))
theorem ok136 : ∀ q ∈ pg136, Sim mT mt136 q.1 q.2 ∧ Grow q.2 := List.forall_mem_append.mpr ⟨ok136_0, List.forall_mem_append.mpr ⟨ok136_1, List.forall_mem_append.mpr ⟨ok136_2, ok136_3⟩⟩⟩
theorem d137_0 : decode mt137.2.1 0 = .ok (.aload_n 0, 1) := by decide +kernel
theorem d137_1 : decode mt137.2.1 1 = .ok (.iconst 0, 1) := by decide +kernel
theorem d137_2 : decode mt137.2.1 2 = .ok (.putfield 74, 3) := by decide +kernel
theorem d137_5 : decode mt137.2.1 5 = .ok (.iload_n 1, 1) := by decide +kernel
theorem d137_6 : decode mt137.2.1 6 = .ok (.invokestatic 88, 3) := by decide +kernel
theorem d137_9 : decode mt137.2.1 9 = .ok (.ifCond .ne 6, 3) := by decide +kernel
theorem d137_12 : decode mt137.2.1 12 = .ok (.ldc 94, 2) := by decide +kernel
theorem d137_14 : decode mt137.2.1 14 = .ok (.ireturn, 1) := by decide +kernel
theorem d137_15 : decode mt137.2.1 15 = .ok (.aload_n 0, 1) := by decide +kernel
theorem d137_16 : decode mt137.2.1 16 = .ok (.iconst 0, 1) := by decide +kernel
theorem d137_17 : decode mt137.2.1 17 = .ok (.putfield 78, 3) := by decide +kernel
theorem d137_20 : decode mt137.2.1 20 = .ok (.aload_n 0, 1) := by decide +kernel
theorem d137_21 : decode mt137.2.1 21 = .ok (.getfield 7, 3) := by decide +kernel
theorem d137_24 : decode mt137.2.1 24 = .ok (.iload_n 1, 1) := by decide +kernel
theorem d137_25 : decode mt137.2.1 25 = .ok (.iaload, 1) := by decide +kernel
theorem d137_26 : decode mt137.2.1 26 = .ok (.ifCond .ge 9, 3) := by decide +kernel
theorem d137_29 : decode mt137.2.1 29 = .ok (.aload_n 0, 1) := by decide +kernel
theorem d137_30 : decode mt137.2.1 30 = .ok (.iconst 1, 1) := by decide +kernel
theorem d137_31 : decode mt137.2.1 31 = .ok (.invokevirtual 95, 3) := by decide +kernel
theorem d137_34 : decode mt137.2.1 34 = .ok (.ireturn, 1) := by decide +kernel
theorem d137_35 : decode mt137.2.1 35 = .ok (.aload_n 0, 1) := by decide +kernel
theorem d137_36 : decode mt137.2.1 36 = .ok (.getfield 7, 3) := by decide +kernel
theorem d137_39 : decode mt137.2.1 39 = .ok (.iload_n 1, 1) := by decide +kernel
theorem d137_40 : decode mt137.2.1 40 = .ok (.iconst (-1), 1) := by decide +kernel
theorem d137_41 : decode mt137.2.1 41 = .ok (.iastore, 1) := by decide +kernel
theorem d137_42 : decode mt137.2.1 42 = .ok (.aload_n 0, 1) := by decide +kernel
theorem d137_43 : decode mt137.2.1 43 = .ok (.getfield 13, 3) := by decide +kernel
theorem d137_46 : decode mt137.2.1 46 = .ok (.iload_n 1, 1) := by decide +kernel
theorem d137_47 : decode mt137.2.1 47 = .ok (.iaload, 1) := by decide +kernel
theorem d137_48 : decode mt137.2.1 48 = .ok (.ireturn, 1) := by decide +kernel
noncomputable def pg137_0 : List (Nat × aP) := [(0, oLdA 0 1),
  (1, oPush (.int 0) 2),
  (2, oPutI (fun k => k = 11) 0 5),
  (5, oLdI 1 6),
  (6, oCall 133 1 9),
  (9, oIf (fun x => ¬ x = 0) 15 12),
  (12, oPush (.int (-1000001)) 14),
  (14, oRetI),
  (15, oLdA 0 16),
  (16, oPush (.int 0) 17),
  (17, oPutI (fun k => k = 11) 1 20),
  (20, oLdA 0 21),
  (21, oGetF (fun k => k = 11) 2 24),
  (24, oLdI 1 25),
  (25, oALdI 26),
  (26, oIf (fun x => 0 ≤ x) 35 29),
  (29, oLdA 0 30),
  (30, oPush (.int 1) 31),
  (31, oCalV (fun k => if k = 11 then some 132 else none) 1 34),
  (34, oRetI),
  (35, oLdA 0 36),
  (36, oGetF (fun k => k = 11) 2 39),
  (39, oLdI 1 40),
  (40, oPush (.int (-1)) 41),
  (41, oAStI 42),
  (42, oLdA 0 43),
  (43, oGetF (fun k => k = 11) 3 46),
  (46, oLdI 1 47),
  (47, oALdI 48),
  (48, oRetI)]
theorem ok137_0 : ∀ q ∈ pg137_0, Sim mT mt137 q.1 q.2 ∧ Grow q.2 :=
  List.forall_mem_cons.mpr ⟨⟨sim_aload_n d137_0 rfl, gr_LdA 0 1⟩,
  List.forall_mem_cons.mpr ⟨⟨sim_iconst d137_1 (by decide), gr_Push (.int 0) 2⟩,
  List.forall_mem_cons.mpr ⟨⟨sim_putI d137_2 gf155w, gr_PutI (fun k => k = 11) 0 5⟩,
  List.forall_mem_cons.mpr ⟨⟨sim_iload_n d137_5 rfl, gr_LdI 1 6⟩,
  List.forall_mem_cons.mpr ⟨⟨sim_static (y := 133) d137_6 (Or.inl kw1034) kw1035 mo133, gr_Call 133 1 9⟩,
  List.forall_mem_cons.mpr ⟨⟨sim_if_ne d137_9 (by decide), gr_If (fun x => ¬ x = 0) 15 12⟩,
  List.forall_mem_cons.mpr ⟨⟨sim_ldc d137_12 kw1042, gr_Push (.int (-1000001)) 14⟩,
  List.forall_mem_cons.mpr ⟨⟨sim_ireturn d137_14 rfl, gr_RetI⟩,
  List.forall_mem_cons.mpr ⟨⟨sim_aload_n d137_15 rfl, gr_LdA 0 16⟩,
  List.forall_mem_cons.mpr ⟨⟨sim_iconst d137_16 (by decide), gr_Push (.int 0) 17⟩,
  List.forall_mem_cons.mpr ⟨⟨sim_putI d137_17 gf154w, gr_PutI (fun k => k = 11) 1 20⟩,
  List.forall_mem_cons.mpr ⟨⟨sim_aload_n d137_20 rfl, gr_LdA 0 21⟩,
  List.forall_mem_cons.mpr ⟨⟨sim_getF d137_21 gf156, gr_GetF (fun k => k = 11) 2 24⟩,
  List.forall_mem_cons.mpr ⟨⟨sim_iload_n d137_24 rfl, gr_LdI 1 25⟩,
  List.forall_mem_cons.mpr ⟨⟨sim_iaload d137_25, gr_ALdI 26⟩,
  List.forall_mem_cons.mpr ⟨⟨sim_if_ge d137_26 (by decide), gr_If (fun x => 0 ≤ x) 35 29⟩,
  List.forall_mem_cons.mpr ⟨⟨sim_aload_n d137_29 rfl, gr_LdA 0 30⟩,
  List.forall_mem_cons.mpr ⟨⟨sim_iconst d137_30 (by decide), gr_Push (.int 1) 31⟩,
  List.forall_mem_cons.mpr ⟨⟨sim_virtual d137_31 vk99, gr_CalV (fun k => if k = 11 then some 132 else none) 1 34⟩,
  List.forall_mem_cons.mpr ⟨⟨sim_ireturn d137_34 rfl, gr_RetI⟩,
  List.forall_mem_cons.mpr ⟨⟨sim_aload_n d137_35 rfl, gr_LdA 0 36⟩,
  List.forall_mem_cons.mpr ⟨⟨sim_getF d137_36 gf156, gr_GetF (fun k => k = 11) 2 39⟩,
  List.forall_mem_cons.mpr ⟨⟨sim_iload_n d137_39 rfl, gr_LdI 1 40⟩,
  List.forall_mem_cons.mpr ⟨⟨sim_iconst d137_40 (by decide), gr_Push (.int (-1)) 41⟩,
  List.forall_mem_cons.mpr ⟨⟨sim_iastore d137_41, gr_AStI 42⟩,
  List.forall_mem_cons.mpr ⟨⟨sim_aload_n d137_42 rfl, gr_LdA 0 43⟩,
  List.forall_mem_cons.mpr ⟨⟨sim_getF d137_43 gf157, gr_GetF (fun k => k = 11) 3 46⟩,
  List.forall_mem_cons.mpr ⟨⟨sim_iload_n d137_46 rfl, gr_LdI 1 47⟩,
  List.forall_mem_cons.mpr ⟨⟨sim_iaload d137_47, gr_ALdI 48⟩,
  List.forall_mem_cons.mpr ⟨⟨sim_ireturn d137_48 rfl, gr_RetI⟩, fun _ h => absurd h List.not_mem_nil⟩⟩⟩⟩⟩⟩⟩⟩⟩⟩⟩⟩⟩⟩⟩⟩⟩⟩⟩⟩⟩⟩⟩⟩⟩⟩⟩⟩⟩⟩
noncomputable def pg137 : List (Nat × aP) := pg137_0
theorem ok137 : ∀ q ∈ pg137, Sim mT mt137 q.1 q.2 ∧ Grow q.2 := ok137_0
theorem d138_0 : decode mt138.2.1 0 = .ok (.aload_n 0, 1) := by decide +kernel
theorem d138_1 : decode mt138.2.1 1 = .ok (.iconst 0, 1) := by decide +kernel
theorem d138_2 : decode mt138.2.1 2 = .ok (.putfield 74, 3) := by decide +kernel
theorem d138_5 : decode mt138.2.1 5 = .ok (.iload_n 3, 1) := by decide +kernel
theorem d138_6 : decode mt138.2.1 6 = .ok (.i2l, 1) := by decide +kernel
theorem d138_7 : decode mt138.2.1 7 = .ok (.lconst 1, 1) := by decide +kernel
theorem d138_8 : decode mt138.2.1 8 = .ok (.ldc2_w 99, 3) := by decide +kernel
theorem d138_11 : decode mt138.2.1 11 = .ok (.invokestatic 84, 3) := by decide +kernel
theorem d138_14 : decode mt138.2.1 14 = .ok (.ifCond .ne 6, 3) := by decide +kernel
theorem d138_17 : decode mt138.2.1 17 = .ok (.ldc 94, 2) := by decide +kernel
theorem d138_19 : decode mt138.2.1 19 = .ok (.ireturn, 1) := by decide +kernel
theorem d138_20 : decode mt138.2.1 20 = .ok (.aload_n 0, 1) := by decide +kernel
theorem d138_21 : decode mt138.2.1 21 = .ok (.getfield 101, 3) := by decide +kernel
theorem d138_24 : decode mt138.2.1 24 = .ok (.iload_n 3, 1) := by decide +kernel
theorem d138_25 : decode mt138.2.1 25 = .ok (.iadd, 1) := by decide +kernel
theorem d138_26 : decode mt138.2.1 26 = .ok (.sipush 300, 3) := by decide +kernel
theorem d138_29 : decode mt138.2.1 29 = .ok (.if_icmp .le 6, 3) := by decide +kernel
theorem d138_32 : decode mt138.2.1 32 = .ok (.ldc 104, 2) := by decide +kernel
theorem d138_34 : decode mt138.2.1 34 = .ok (.ireturn, 1) := by decide +kernel
theorem d138_35 : decode mt138.2.1 35 = .ok (.iload_n 3, 1) := by decide +kernel
theorem d138_36 : decode mt138.2.1 36 = .ok (.iconst 1, 1) := by decide +kernel
theorem d138_37 : decode mt138.2.1 37 = .ok (.isub, 1) := by decide +kernel
theorem d138_38 : decode mt138.2.1 38 = .ok (.istore 4, 2) := by decide +kernel
theorem d138_40 : decode mt138.2.1 40 = .ok (.iload 4, 2) := by decide +kernel
theorem d138_42 : decode mt138.2.1 42 = .ok (.ifCond .lt 40, 3) := by decide +kernel
theorem d138_45 : decode mt138.2.1 45 = .ok (.aload_n 0, 1) := by decide +kernel
theorem d138_46 : decode mt138.2.1 46 = .ok (.getfield 25, 3) := by decide +kernel
theorem d138_49 : decode mt138.2.1 49 = .ok (.aload_n 0, 1) := by decide +kernel
theorem d138_50 : decode mt138.2.1 50 = .ok (.getfield 101, 3) := by decide +kernel
theorem d138_53 : decode mt138.2.1 53 = .ok (.lload_n 1, 1) := by decide +kernel
theorem d138_54 : decode mt138.2.1 54 = .ok (.bipush 8, 2) := by decide +kernel
theorem d138_56 : decode mt138.2.1 56 = .ok (.iload 4, 2) := by decide +kernel
theorem d138_58 : decode mt138.2.1 58 = .ok (.imul, 1) := by decide +kernel
theorem d138_59 : decode mt138.2.1 59 = .ok (.lshr, 1) := by decide +kernel
theorem d138_60 : decode mt138.2.1 60 = .ok (.ldc2_w 105, 3) := by decide +kernel
theorem d138_63 : decode mt138.2.1 63 = .ok (.land, 1) := by decide +kernel
theorem d138_64 : decode mt138.2.1 64 = .ok (.l2i, 1) := by decide +kernel
theorem d138_65 : decode mt138.2.1 65 = .ok (.iastore, 1) := by decide +kernel
theorem d138_66 : decode mt138.2.1 66 = .ok (.aload_n 0, 1) := by decide +kernel
theorem d138_67 : decode mt138.2.1 67 = .ok (.dup, 1) := by decide +kernel
theorem d138_68 : decode mt138.2.1 68 = .ok (.getfield 101, 3) := by decide +kernel
theorem d138_71 : decode mt138.2.1 71 = .ok (.iconst 1, 1) := by decide +kernel
theorem d138_72 : decode mt138.2.1 72 = .ok (.iadd, 1) := by decide +kernel
theorem d138_73 : decode mt138.2.1 73 = .ok (.putfield 101, 3) := by decide +kernel
theorem d138_76 : decode mt138.2.1 76 = .ok (.iinc 4 (-1), 3) := by decide +kernel
theorem d138_79 : decode mt138.2.1 79 = .ok (.goto (-39), 3) := by decide +kernel
theorem d138_82 : decode mt138.2.1 82 = .ok (.aload_n 0, 1) := by decide +kernel
theorem d138_83 : decode mt138.2.1 83 = .ok (.getfield 101, 3) := by decide +kernel
theorem d138_86 : decode mt138.2.1 86 = .ok (.ireturn, 1) := by decide +kernel
noncomputable def pg138_0 : List (Nat × aP) := [(0, oLdA 0 1),
  (1, oPush (.int 0) 2),
  (2, oPutI (fun k => k = 11) 0 5),
  (5, oLdI 3 6),
  (6, oIL (fun x => x.toInt64) 7),
  (7, oPush (.long 1) 8),
  (8, oPush (.long 8) 11),
  (11, oCall 131 3 14),
  (14, oIf (fun x => ¬ x = 0) 20 17),
  (17, oPush (.int (-1000001)) 19),
  (19, oRetI),
  (20, oLdA 0 21),
  (21, oGetI (fun k => k = 11) 9 24),
  (24, oLdI 3 25),
  (25, oII (fun x y => x + y) 26),
  (26, oPush (.int 300) 29),
  (29, oIc (fun x y => x ≤ y) 35 32),
  (32, oPush (.int (-1000003)) 34),
  (34, oRetI),
  (35, oLdI 3 36),
  (36, oPush (.int 1) 37),
  (37, oII (fun x y => x - y) 38),
  (38, oStI 4 40),
  (40, oLdI 4 42),
  (42, oIf (fun x => x < 0) 82 45),
  (45, oLdA 0 46),
  (46, oGetF (fun k => k = 11) 8 49),
  (49, oLdA 0 50),
  (50, oGetI (fun k => k = 11) 9 53),
  (53, oLdL 1 54),
  (54, oPush (.int 8) 56),
  (56, oLdI 4 58),
  (58, oII (fun x y => x * y) 59),
  (59, oLSh (fun x y => x >>> (y.toInt64 &&& 63)) 60),
  (60, oPush (.long 255) 63),
  (63, oLL (fun x y => x &&& y) 64),
  (64, oLI (fun x => x.toInt32) 65),
  (65, oAStI 66),
  (66, oLdA 0 67),
  (67, oDup 68)]
theorem ok138_0 : ∀ q ∈ pg138_0, Sim mT mt138 q.1 q.2 ∧ Grow q.2 :=
  List.forall_mem_cons.mpr ⟨⟨sim_aload_n d138_0 rfl, gr_LdA 0 1⟩,
  List.forall_mem_cons.mpr ⟨⟨sim_iconst d138_1 (by decide), gr_Push (.int 0) 2⟩,
  List.forall_mem_cons.mpr ⟨⟨sim_putI d138_2 gf155w, gr_PutI (fun k => k = 11) 0 5⟩,
  List.forall_mem_cons.mpr ⟨⟨sim_iload_n d138_5 rfl, gr_LdI 3 6⟩,
  List.forall_mem_cons.mpr ⟨⟨sim_i2l d138_6, gr_IL (fun x => x.toInt64) 7⟩,
  List.forall_mem_cons.mpr ⟨⟨sim_lconst d138_7 (by decide), gr_Push (.long 1) 8⟩,
  List.forall_mem_cons.mpr ⟨⟨sim_ldc2 d138_8 kw1064, gr_Push (.long 8) 11⟩,
  List.forall_mem_cons.mpr ⟨⟨sim_static (y := 131) d138_11 (Or.inl kw1038) kw1039 mo131, gr_Call 131 3 14⟩,
  List.forall_mem_cons.mpr ⟨⟨sim_if_ne d138_14 (by decide), gr_If (fun x => ¬ x = 0) 20 17⟩,
  List.forall_mem_cons.mpr ⟨⟨sim_ldc d138_17 kw1042, gr_Push (.int (-1000001)) 19⟩,
  List.forall_mem_cons.mpr ⟨⟨sim_ireturn d138_19 rfl, gr_RetI⟩,
  List.forall_mem_cons.mpr ⟨⟨sim_aload_n d138_20 rfl, gr_LdA 0 21⟩,
  List.forall_mem_cons.mpr ⟨⟨sim_getI d138_21 gf159, gr_GetI (fun k => k = 11) 9 24⟩,
  List.forall_mem_cons.mpr ⟨⟨sim_iload_n d138_24 rfl, gr_LdI 3 25⟩,
  List.forall_mem_cons.mpr ⟨⟨sim_iadd d138_25, gr_II (fun x y => x + y) 26⟩,
  List.forall_mem_cons.mpr ⟨⟨sim_sipush d138_26 (by decide), gr_Push (.int 300) 29⟩,
  List.forall_mem_cons.mpr ⟨⟨sim_icmp_le d138_29 (by decide), gr_Ic (fun x y => x ≤ y) 35 32⟩,
  List.forall_mem_cons.mpr ⟨⟨sim_ldc d138_32 kw1065, gr_Push (.int (-1000003)) 34⟩,
  List.forall_mem_cons.mpr ⟨⟨sim_ireturn d138_34 rfl, gr_RetI⟩,
  List.forall_mem_cons.mpr ⟨⟨sim_iload_n d138_35 rfl, gr_LdI 3 36⟩,
  List.forall_mem_cons.mpr ⟨⟨sim_iconst d138_36 (by decide), gr_Push (.int 1) 37⟩,
  List.forall_mem_cons.mpr ⟨⟨sim_isub d138_37, gr_II (fun x y => x - y) 38⟩,
  List.forall_mem_cons.mpr ⟨⟨sim_istore d138_38 (by decide), gr_StI 4 40⟩,
  List.forall_mem_cons.mpr ⟨⟨sim_iload d138_40, gr_LdI 4 42⟩,
  List.forall_mem_cons.mpr ⟨⟨sim_if_lt d138_42 (by decide), gr_If (fun x => x < 0) 82 45⟩,
  List.forall_mem_cons.mpr ⟨⟨sim_aload_n d138_45 rfl, gr_LdA 0 46⟩,
  List.forall_mem_cons.mpr ⟨⟨sim_getF d138_46 gf160, gr_GetF (fun k => k = 11) 8 49⟩,
  List.forall_mem_cons.mpr ⟨⟨sim_aload_n d138_49 rfl, gr_LdA 0 50⟩,
  List.forall_mem_cons.mpr ⟨⟨sim_getI d138_50 gf159, gr_GetI (fun k => k = 11) 9 53⟩,
  List.forall_mem_cons.mpr ⟨⟨sim_lload_n d138_53 rfl, gr_LdL 1 54⟩,
  List.forall_mem_cons.mpr ⟨⟨sim_bipush d138_54 (by decide), gr_Push (.int 8) 56⟩,
  List.forall_mem_cons.mpr ⟨⟨sim_iload d138_56, gr_LdI 4 58⟩,
  List.forall_mem_cons.mpr ⟨⟨sim_imul d138_58, gr_II (fun x y => x * y) 59⟩,
  List.forall_mem_cons.mpr ⟨⟨sim_lshr d138_59, gr_LSh (fun x y => x >>> (y.toInt64 &&& 63)) 60⟩,
  List.forall_mem_cons.mpr ⟨⟨sim_ldc2 d138_60 kw1066, gr_Push (.long 255) 63⟩,
  List.forall_mem_cons.mpr ⟨⟨sim_land d138_63, gr_LL (fun x y => x &&& y) 64⟩,
  List.forall_mem_cons.mpr ⟨⟨sim_l2i d138_64, gr_LI (fun x => x.toInt32) 65⟩,
  List.forall_mem_cons.mpr ⟨⟨sim_iastore d138_65, gr_AStI 66⟩,
  List.forall_mem_cons.mpr ⟨⟨sim_aload_n d138_66 rfl, gr_LdA 0 67⟩,
  List.forall_mem_cons.mpr ⟨⟨sim_dup d138_67, gr_Dup 68⟩, fun _ h => absurd h List.not_mem_nil⟩⟩⟩⟩⟩⟩⟩⟩⟩⟩⟩⟩⟩⟩⟩⟩⟩⟩⟩⟩⟩⟩⟩⟩⟩⟩⟩⟩⟩⟩⟩⟩⟩⟩⟩⟩⟩⟩⟩⟩
noncomputable def pg138_1 : List (Nat × aP) := [(68, oGetI (fun k => k = 11) 9 71),
  (71, oPush (.int 1) 72),
  (72, oII (fun x y => x + y) 73),
  (73, oPutI (fun k => k = 11) 9 76),
  (76, oInc 4 (-1) 79),
  (79, oGo 40),
  (82, oLdA 0 83),
  (83, oGetI (fun k => k = 11) 9 86),
  (86, oRetI)]
theorem ok138_1 : ∀ q ∈ pg138_1, Sim mT mt138 q.1 q.2 ∧ Grow q.2 :=
  List.forall_mem_cons.mpr ⟨⟨sim_getI d138_68 gf159, gr_GetI (fun k => k = 11) 9 71⟩,
  List.forall_mem_cons.mpr ⟨⟨sim_iconst d138_71 (by decide), gr_Push (.int 1) 72⟩,
  List.forall_mem_cons.mpr ⟨⟨sim_iadd d138_72, gr_II (fun x y => x + y) 73⟩,
  List.forall_mem_cons.mpr ⟨⟨sim_putI d138_73 gf159w, gr_PutI (fun k => k = 11) 9 76⟩,
  List.forall_mem_cons.mpr ⟨⟨sim_iinc d138_76 (by decide) (by decide), gr_Inc 4 (-1) 79⟩,
  List.forall_mem_cons.mpr ⟨⟨sim_goto d138_79 (by decide), gr_Go 40⟩,
  List.forall_mem_cons.mpr ⟨⟨sim_aload_n d138_82 rfl, gr_LdA 0 83⟩,
  List.forall_mem_cons.mpr ⟨⟨sim_getI d138_83 gf159, gr_GetI (fun k => k = 11) 9 86⟩,
  List.forall_mem_cons.mpr ⟨⟨sim_ireturn d138_86 rfl, gr_RetI⟩, fun _ h => absurd h List.not_mem_nil⟩⟩⟩⟩⟩⟩⟩⟩⟩
noncomputable def pg138 : List (Nat × aP) := pg138_0 ++ (pg138_1)
theorem ok138 : ∀ q ∈ pg138, Sim mT mt138 q.1 q.2 ∧ Grow q.2 := List.forall_mem_append.mpr ⟨ok138_0, ok138_1⟩
theorem d139_0 : decode mt139.2.1 0 = .ok (.iload_n 1, 1) := by decide +kernel
theorem d139_1 : decode mt139.2.1 1 = .ok (.aload_n 0, 1) := by decide +kernel
theorem d139_2 : decode mt139.2.1 2 = .ok (.getfield 107, 3) := by decide +kernel
theorem d139_5 : decode mt139.2.1 5 = .ok (.if_icmp .ge 12, 3) := by decide +kernel
theorem d139_8 : decode mt139.2.1 8 = .ok (.aload_n 0, 1) := by decide +kernel
theorem d139_9 : decode mt139.2.1 9 = .ok (.getfield 25, 3) := by decide +kernel
theorem d139_12 : decode mt139.2.1 12 = .ok (.iload_n 1, 1) := by decide +kernel
theorem d139_13 : decode mt139.2.1 13 = .ok (.iaload, 1) := by decide +kernel
theorem d139_14 : decode mt139.2.1 14 = .ok (.goto 5, 3) := by decide +kernel
theorem d139_17 : decode mt139.2.1 17 = .ok (.ldc 110, 2) := by decide +kernel
theorem d139_19 : decode mt139.2.1 19 = .ok (.ireturn, 1) := by decide +kernel
noncomputable def pg139_0 : List (Nat × aP) := [(0, oLdI 1 1),
  (1, oLdA 0 2),
  (2, oGetI (fun k => k = 11) 11 5),
  (5, oIc (fun x y => y ≤ x) 17 8),
  (8, oLdA 0 9),
  (9, oGetF (fun k => k = 11) 8 12),
  (12, oLdI 1 13),
  (13, oALdI 14),
  (14, oGo 19),
  (17, oPush (.int (-1000000)) 19),
  (19, oRetI)]
theorem ok139_0 : ∀ q ∈ pg139_0, Sim mT mt139 q.1 q.2 ∧ Grow q.2 :=
  List.forall_mem_cons.mpr ⟨⟨sim_iload_n d139_0 rfl, gr_LdI 1 1⟩,
  List.forall_mem_cons.mpr ⟨⟨sim_aload_n d139_1 rfl, gr_LdA 0 2⟩,
  List.forall_mem_cons.mpr ⟨⟨sim_getI d139_2 gf161, gr_GetI (fun k => k = 11) 11 5⟩,
  List.forall_mem_cons.mpr ⟨⟨sim_icmp_ge d139_5 (by decide), gr_Ic (fun x y => y ≤ x) 17 8⟩,
  List.forall_mem_cons.mpr ⟨⟨sim_aload_n d139_8 rfl, gr_LdA 0 9⟩,
  List.forall_mem_cons.mpr ⟨⟨sim_getF d139_9 gf160, gr_GetF (fun k => k = 11) 8 12⟩,
  List.forall_mem_cons.mpr ⟨⟨sim_iload_n d139_12 rfl, gr_LdI 1 13⟩,
  List.forall_mem_cons.mpr ⟨⟨sim_iaload d139_13, gr_ALdI 14⟩,
  List.forall_mem_cons.mpr ⟨⟨sim_goto d139_14 (by decide), gr_Go 19⟩,
  List.forall_mem_cons.mpr ⟨⟨sim_ldc d139_17 kw1083, gr_Push (.int (-1000000)) 19⟩,
  List.forall_mem_cons.mpr ⟨⟨sim_ireturn d139_19 rfl, gr_RetI⟩, fun _ h => absurd h List.not_mem_nil⟩⟩⟩⟩⟩⟩⟩⟩⟩⟩⟩
noncomputable def pg139 : List (Nat × aP) := pg139_0
theorem ok139 : ∀ q ∈ pg139, Sim mT mt139 q.1 q.2 ∧ Grow q.2 := ok139_0
theorem d140_0 : decode mt140.2.1 0 = .ok (.iload_n 0, 1) := by decide +kernel
theorem d140_1 : decode mt140.2.1 1 = .ok (.bipush 97, 2) := by decide +kernel
theorem d140_3 : decode mt140.2.1 3 = .ok (.if_icmp .lt 13, 3) := by decide +kernel
theorem d140_6 : decode mt140.2.1 6 = .ok (.iload_n 0, 1) := by decide +kernel
theorem d140_7 : decode mt140.2.1 7 = .ok (.bipush 122, 2) := by decide +kernel
theorem d140_9 : decode mt140.2.1 9 = .ok (.if_icmp .gt 7, 3) := by decide +kernel
theorem d140_12 : decode mt140.2.1 12 = .ok (.iconst 1, 1) := by decide +kernel
theorem d140_13 : decode mt140.2.1 13 = .ok (.goto 4, 3) := by decide +kernel
theorem d140_16 : decode mt140.2.1 16 = .ok (.iconst 0, 1) := by decide +kernel
theorem d140_17 : decode mt140.2.1 17 = .ok (.ireturn, 1) := by decide +kernel
noncomputable def pg140_0 : List (Nat × aP) := [(0, oLdI 0 1),
  (1, oPush (.int 97) 3),
  (3, oIc (fun x y => x < y) 16 6),
  (6, oLdI 0 7),
  (7, oPush (.int 122) 9),
  (9, oIc (fun x y => y < x) 16 12),
  (12, oPush (.int 1) 13),
  (13, oGo 17),
  (16, oPush (.int 0) 17),
  (17, oRetN .boolean)]
theorem ok140_0 : ∀ q ∈ pg140_0, Sim mT mt140 q.1 q.2 ∧ Grow q.2 :=
  List.forall_mem_cons.mpr ⟨⟨sim_iload_n d140_0 rfl, gr_LdI 0 1⟩,
  List.forall_mem_cons.mpr ⟨⟨sim_bipush d140_1 (by decide), gr_Push (.int 97) 3⟩,
  List.forall_mem_cons.mpr ⟨⟨sim_icmp_lt d140_3 (by decide), gr_Ic (fun x y => x < y) 16 6⟩,
  List.forall_mem_cons.mpr ⟨⟨sim_iload_n d140_6 rfl, gr_LdI 0 7⟩,
  List.forall_mem_cons.mpr ⟨⟨sim_bipush d140_7 (by decide), gr_Push (.int 122) 9⟩,
  List.forall_mem_cons.mpr ⟨⟨sim_icmp_gt d140_9 (by decide), gr_Ic (fun x y => y < x) 16 12⟩,
  List.forall_mem_cons.mpr ⟨⟨sim_iconst d140_12 (by decide), gr_Push (.int 1) 13⟩,
  List.forall_mem_cons.mpr ⟨⟨sim_goto d140_13 (by decide), gr_Go 17⟩,
  List.forall_mem_cons.mpr ⟨⟨sim_iconst d140_16 (by decide), gr_Push (.int 0) 17⟩,
  List.forall_mem_cons.mpr ⟨⟨sim_nreturn d140_17 rfl (fun _ h => congrArg Value.int h), gr_RetN .boolean⟩, fun _ h => absurd h List.not_mem_nil⟩⟩⟩⟩⟩⟩⟩⟩⟩⟩
noncomputable def pg140 : List (Nat × aP) := pg140_0
theorem ok140 : ∀ q ∈ pg140, Sim mT mt140 q.1 q.2 ∧ Grow q.2 := ok140_0
theorem d141_0 : decode mt141.2.1 0 = .ok (.iload_n 0, 1) := by decide +kernel
theorem d141_1 : decode mt141.2.1 1 = .ok (.bipush 48, 2) := by decide +kernel
theorem d141_3 : decode mt141.2.1 3 = .ok (.if_icmp .lt 13, 3) := by decide +kernel
theorem d141_6 : decode mt141.2.1 6 = .ok (.iload_n 0, 1) := by decide +kernel
theorem d141_7 : decode mt141.2.1 7 = .ok (.bipush 57, 2) := by decide +kernel
theorem d141_9 : decode mt141.2.1 9 = .ok (.if_icmp .gt 7, 3) := by decide +kernel
theorem d141_12 : decode mt141.2.1 12 = .ok (.iconst 1, 1) := by decide +kernel
theorem d141_13 : decode mt141.2.1 13 = .ok (.goto 4, 3) := by decide +kernel
theorem d141_16 : decode mt141.2.1 16 = .ok (.iconst 0, 1) := by decide +kernel
theorem d141_17 : decode mt141.2.1 17 = .ok (.ireturn, 1) := by decide +kernel
noncomputable def pg141_0 : List (Nat × aP) := [(0, oLdI 0 1),
  (1, oPush (.int 48) 3),
  (3, oIc (fun x y => x < y) 16 6),
  (6, oLdI 0 7),
  (7, oPush (.int 57) 9),
  (9, oIc (fun x y => y < x) 16 12),
  (12, oPush (.int 1) 13),
  (13, oGo 17),
  (16, oPush (.int 0) 17),
  (17, oRetN .boolean)]
theorem ok141_0 : ∀ q ∈ pg141_0, Sim mT mt141 q.1 q.2 ∧ Grow q.2 :=
  List.forall_mem_cons.mpr ⟨⟨sim_iload_n d141_0 rfl, gr_LdI 0 1⟩,
  List.forall_mem_cons.mpr ⟨⟨sim_bipush d141_1 (by decide), gr_Push (.int 48) 3⟩,
  List.forall_mem_cons.mpr ⟨⟨sim_icmp_lt d141_3 (by decide), gr_Ic (fun x y => x < y) 16 6⟩,
  List.forall_mem_cons.mpr ⟨⟨sim_iload_n d141_6 rfl, gr_LdI 0 7⟩,
  List.forall_mem_cons.mpr ⟨⟨sim_bipush d141_7 (by decide), gr_Push (.int 57) 9⟩,
  List.forall_mem_cons.mpr ⟨⟨sim_icmp_gt d141_9 (by decide), gr_Ic (fun x y => y < x) 16 12⟩,
  List.forall_mem_cons.mpr ⟨⟨sim_iconst d141_12 (by decide), gr_Push (.int 1) 13⟩,
  List.forall_mem_cons.mpr ⟨⟨sim_goto d141_13 (by decide), gr_Go 17⟩,
  List.forall_mem_cons.mpr ⟨⟨sim_iconst d141_16 (by decide), gr_Push (.int 0) 17⟩,
  List.forall_mem_cons.mpr ⟨⟨sim_nreturn d141_17 rfl (fun _ h => congrArg Value.int h), gr_RetN .boolean⟩, fun _ h => absurd h List.not_mem_nil⟩⟩⟩⟩⟩⟩⟩⟩⟩⟩
noncomputable def pg141 : List (Nat × aP) := pg141_0
theorem ok141 : ∀ q ∈ pg141, Sim mT mt141 q.1 q.2 ∧ Grow q.2 := ok141_0
theorem d142_0 : decode mt142.2.1 0 = .ok (.aload_n 0, 1) := by decide +kernel
theorem d142_1 : decode mt142.2.1 1 = .ok (.aload_n 0, 1) := by decide +kernel
theorem d142_2 : decode mt142.2.1 2 = .ok (.getfield 111, 3) := by decide +kernel
theorem d142_5 : decode mt142.2.1 5 = .ok (.invokevirtual 114, 3) := by decide +kernel
theorem d142_8 : decode mt142.2.1 8 = .ok (.bipush 32, 2) := by decide +kernel
theorem d142_10 : decode mt142.2.1 10 = .ok (.if_icmp .eq 16, 3) := by decide +kernel
theorem d142_13 : decode mt142.2.1 13 = .ok (.aload_n 0, 1) := by decide +kernel
theorem d142_14 : decode mt142.2.1 14 = .ok (.aload_n 0, 1) := by decide +kernel
theorem d142_15 : decode mt142.2.1 15 = .ok (.getfield 111, 3) := by decide +kernel
theorem d142_18 : decode mt142.2.1 18 = .ok (.invokevirtual 114, 3) := by decide +kernel
theorem d142_21 : decode mt142.2.1 21 = .ok (.bipush 10, 2) := by decide +kernel
theorem d142_23 : decode mt142.2.1 23 = .ok (.if_icmp .ne 16, 3) := by decide +kernel
theorem d142_26 : decode mt142.2.1 26 = .ok (.aload_n 0, 1) := by decide +kernel
theorem d142_27 : decode mt142.2.1 27 = .ok (.dup, 1) := by decide +kernel
theorem d142_28 : decode mt142.2.1 28 = .ok (.getfield 111, 3) := by decide +kernel
theorem d142_31 : decode mt142.2.1 31 = .ok (.iconst 1, 1) := by decide +kernel
theorem d142_32 : decode mt142.2.1 32 = .ok (.iadd, 1) := by decide +kernel
theorem d142_33 : decode mt142.2.1 33 = .ok (.putfield 111, 3) := by decide +kernel
theorem d142_36 : decode mt142.2.1 36 = .ok (.goto (-36), 3) := by decide +kernel
theorem d142_39 : decode mt142.2.1 39 = .ok (.aload_n 0, 1) := by decide +kernel
theorem d142_40 : decode mt142.2.1 40 = .ok (.aload_n 0, 1) := by decide +kernel
theorem d142_41 : decode mt142.2.1 41 = .ok (.getfield 111, 3) := by decide +kernel
theorem d142_44 : decode mt142.2.1 44 = .ok (.putfield 117, 3) := by decide +kernel
theorem d142_47 : decode mt142.2.1 47 = .ok (.aload_n 0, 1) := by decide +kernel
theorem d142_48 : decode mt142.2.1 48 = .ok (.aload_n 0, 1) := by decide +kernel
theorem d142_49 : decode mt142.2.1 49 = .ok (.getfield 111, 3) := by decide +kernel
theorem d142_52 : decode mt142.2.1 52 = .ok (.invokevirtual 114, 3) := by decide +kernel
theorem d142_55 : decode mt142.2.1 55 = .ok (.istore_n 1, 1) := by decide +kernel
theorem d142_56 : decode mt142.2.1 56 = .ok (.iload_n 1, 1) := by decide +kernel
theorem d142_57 : decode mt142.2.1 57 = .ok (.ldc 110, 2) := by decide +kernel
theorem d142_59 : decode mt142.2.1 59 = .ok (.if_icmp .ne 11, 3) := by decide +kernel
theorem d142_62 : decode mt142.2.1 62 = .ok (.aload_n 0, 1) := by decide +kernel
theorem d142_63 : decode mt142.2.1 63 = .ok (.iconst 1, 1) := by decide +kernel
theorem d142_64 : decode mt142.2.1 64 = .ok (.putfield 120, 3) := by decide +kernel
theorem d142_67 : decode mt142.2.1 67 = .ok (.goto 129, 3) := by decide +kernel
theorem d142_70 : decode mt142.2.1 70 = .ok (.iload_n 1, 1) := by decide +kernel
theorem d142_71 : decode mt142.2.1 71 = .ok (.invokestatic 123, 3) := by decide +kernel
theorem d142_74 : decode mt142.2.1 74 = .ok (.ifCond .eq 38, 3) := by decide +kernel
theorem d142_77 : decode mt142.2.1 77 = .ok (.aload_n 0, 1) := by decide +kernel
theorem d142_78 : decode mt142.2.1 78 = .ok (.aload_n 0, 1) := by decide +kernel
theorem d142_79 : decode mt142.2.1 79 = .ok (.getfield 111, 3) := by decide +kernel
theorem d142_82 : decode mt142.2.1 82 = .ok (.invokevirtual 114, 3) := by decide +kernel
theorem d142_85 : decode mt142.2.1 85 = .ok (.invokestatic 123, 3) := by decide +kernel
theorem d142_88 : decode mt142.2.1 88 = .ok (.ifCond .eq 16, 3) := by decide +kernel
theorem d142_91 : decode mt142.2.1 91 = .ok (.aload_n 0, 1) := by decide +kernel
theorem d142_92 : decode mt142.2.1 92 = .ok (.dup, 1) := by decide +kernel
theorem d142_93 : decode mt142.2.1 93 = .ok (.getfield 111, 3) := by decide +kernel
theorem d142_96 : decode mt142.2.1 96 = .ok (.iconst 1, 1) := by decide +kernel
theorem d142_97 : decode mt142.2.1 97 = .ok (.iadd, 1) := by decide +kernel
theorem d142_98 : decode mt142.2.1 98 = .ok (.putfield 111, 3) := by decide +kernel
theorem d142_101 : decode mt142.2.1 101 = .ok (.goto (-24), 3) := by decide +kernel
theorem d142_104 : decode mt142.2.1 104 = .ok (.aload_n 0, 1) := by decide +kernel
theorem d142_105 : decode mt142.2.1 105 = .ok (.iconst 2, 1) := by decide +kernel
theorem d142_106 : decode mt142.2.1 106 = .ok (.putfield 120, 3) := by decide +kernel
theorem d142_109 : decode mt142.2.1 109 = .ok (.goto 87, 3) := by decide +kernel
theorem d142_112 : decode mt142.2.1 112 = .ok (.iload_n 1, 1) := by decide +kernel
theorem d142_113 : decode mt142.2.1 113 = .ok (.invokestatic 126, 3) := by decide +kernel
theorem d142_116 : decode mt142.2.1 116 = .ok (.ifCond .eq 55, 3) := by decide +kernel
theorem d142_119 : decode mt142.2.1 119 = .ok (.aload_n 0, 1) := by decide +kernel
theorem d142_120 : decode mt142.2.1 120 = .ok (.aload_n 0, 1) := by decide +kernel
theorem d142_121 : decode mt142.2.1 121 = .ok (.getfield 111, 3) := by decide +kernel
theorem d142_124 : decode mt142.2.1 124 = .ok (.invokevirtual 114, 3) := by decide +kernel
theorem d142_127 : decode mt142.2.1 127 = .ok (.invokestatic 126, 3) := by decide +kernel
theorem d142_130 : decode mt142.2.1 130 = .ok (.ifCond .eq 16, 3) := by decide +kernel
theorem d142_133 : decode mt142.2.1 133 = .ok (.aload_n 0, 1) := by decide +kernel
theorem d142_134 : decode mt142.2.1 134 = .ok (.dup, 1) := by decide +kernel
theorem d142_135 : decode mt142.2.1 135 = .ok (.getfield 111, 3) := by decide +kernel
theorem d142_138 : decode mt142.2.1 138 = .ok (.iconst 1, 1) := by decide +kernel
theorem d142_139 : decode mt142.2.1 139 = .ok (.iadd, 1) := by decide +kernel
theorem d142_140 : decode mt142.2.1 140 = .ok (.putfield 111, 3) := by decide +kernel
theorem d142_143 : decode mt142.2.1 143 = .ok (.goto (-24), 3) := by decide +kernel
theorem d142_146 : decode mt142.2.1 146 = .ok (.aload_n 0, 1) := by decide +kernel
theorem d142_147 : decode mt142.2.1 147 = .ok (.aload_n 0, 1) := by decide +kernel
theorem d142_148 : decode mt142.2.1 148 = .ok (.getfield 111, 3) := by decide +kernel
theorem d142_151 : decode mt142.2.1 151 = .ok (.aload_n 0, 1) := by decide +kernel
theorem d142_152 : decode mt142.2.1 152 = .ok (.getfield 117, 3) := by decide +kernel
theorem d142_155 : decode mt142.2.1 155 = .ok (.isub, 1) := by decide +kernel
theorem d142_156 : decode mt142.2.1 156 = .ok (.iconst 3, 1) := by decide +kernel
theorem d142_157 : decode mt142.2.1 157 = .ok (.if_icmp .le 7, 3) := by decide +kernel
theorem d142_160 : decode mt142.2.1 160 = .ok (.iconst 0, 1) := by decide +kernel
theorem d142_161 : decode mt142.2.1 161 = .ok (.goto 4, 3) := by decide +kernel
theorem d142_164 : decode mt142.2.1 164 = .ok (.iconst 3, 1) := by decide +kernel
theorem d142_165 : decode mt142.2.1 165 = .ok (.putfield 120, 3) := by decide +kernel
theorem d142_168 : decode mt142.2.1 168 = .ok (.goto 28, 3) := by decide +kernel
theorem d142_171 : decode mt142.2.1 171 = .ok (.aload_n 0, 1) := by decide +kernel
theorem d142_172 : decode mt142.2.1 172 = .ok (.dup, 1) := by decide +kernel
theorem d142_173 : decode mt142.2.1 173 = .ok (.getfield 111, 3) := by decide +kernel
theorem d142_176 : decode mt142.2.1 176 = .ok (.iconst 1, 1) := by decide +kernel
theorem d142_177 : decode mt142.2.1 177 = .ok (.iadd, 1) := by decide +kernel
theorem d142_178 : decode mt142.2.1 178 = .ok (.putfield 111, 3) := by decide +kernel
theorem d142_181 : decode mt142.2.1 181 = .ok (.aload_n 0, 1) := by decide +kernel
theorem d142_182 : decode mt142.2.1 182 = .ok (.iload_n 1, 1) := by decide +kernel
theorem d142_183 : decode mt142.2.1 183 = .ok (.bipush 59, 2) := by decide +kernel
theorem d142_185 : decode mt142.2.1 185 = .ok (.if_icmp .ne 7, 3) := by decide +kernel
theorem d142_188 : decode mt142.2.1 188 = .ok (.iconst 4, 1) := by decide +kernel
theorem d142_189 : decode mt142.2.1 189 = .ok (.goto 4, 3) := by decide +kernel
theorem d142_192 : decode mt142.2.1 192 = .ok (.iconst 0, 1) := by decide +kernel
theorem d142_193 : decode mt142.2.1 193 = .ok (.putfield 120, 3) := by decide +kernel
theorem d142_196 : decode mt142.2.1 196 = .ok (.aload_n 0, 1) := by decide +kernel
theorem d142_197 : decode mt142.2.1 197 = .ok (.aload_n 0, 1) := by decide +kernel
theorem d142_198 : decode mt142.2.1 198 = .ok (.getfield 111, 3) := by decide +kernel
theorem d142_201 : decode mt142.2.1 201 = .ok (.putfield 129, 3) := by decide +kernel
theorem d142_204 : decode mt142.2.1 204 = .ok (.return_, 1) := by decide +kernel
noncomputable def pg142_0 : List (Nat × aP) := [(0, oLdA 0 1),
  (1, oLdA 0 2),
  (2, oGetI (fun k => k = 11) 12 5),
  (5, oCalV (fun k => if k = 11 then some 139 else none) 1 8),
  (8, oPush (.int 32) 10),
  (10, oIc (fun x y => x = y) 26 13),
  (13, oLdA 0 14),
  (14, oLdA 0 15),
  (15, oGetI (fun k => k = 11) 12 18),
  (18, oCalV (fun k => if k = 11 then some 139 else none) 1 21),
  (21, oPush (.int 10) 23),
  (23, oIc (fun x y => ¬ x = y) 39 26),
  (26, oLdA 0 27),
  (27, oDup 28),
  (28, oGetI (fun k => k = 11) 12 31),
  (31, oPush (.int 1) 32),
  (32, oII (fun x y => x + y) 33),
  (33, oPutI (fun k => k = 11) 12 36),
  (36, oGo 0),
  (39, oLdA 0 40),
  (40, oLdA 0 41),
  (41, oGetI (fun k => k = 11) 12 44),
  (44, oPutI (fun k => k = 11) 14 47),
  (47, oLdA 0 48),
  (48, oLdA 0 49),
  (49, oGetI (fun k => k = 11) 12 52),
  (52, oCalV (fun k => if k = 11 then some 139 else none) 1 55),
  (55, oStI 1 56),
  (56, oLdI 1 57),
  (57, oPush (.int (-1000000)) 59),
  (59, oIc (fun x y => ¬ x = y) 70 62),
  (62, oLdA 0 63),
  (63, oPush (.int 1) 64),
  (64, oPutI (fun k => k = 11) 13 67),
  (67, oGo 196),
  (70, oLdI 1 71),
  (71, oCall 140 1 74),
  (74, oIf (fun x => x = 0) 112 77),
  (77, oLdA 0 78),
  (78, oLdA 0 79)]
theorem ok142_0 : ∀ q ∈ pg142_0, Sim mT mt142 q.1 q.2 ∧ Grow q.2 :=
  List.forall_mem_cons.mpr ⟨⟨sim_aload_n d142_0 rfl, gr_LdA 0 1⟩,
  List.forall_mem_cons.mpr ⟨⟨sim_aload_n d142_1 rfl, gr_LdA 0 2⟩,
  List.forall_mem_cons.mpr ⟨⟨sim_getI d142_2 gf162, gr_GetI (fun k => k = 11) 12 5⟩,
  List.forall_mem_cons.mpr ⟨⟨sim_virtual d142_5 vk100, gr_CalV (fun k => if k = 11 then some 139 else none) 1 8⟩,
  List.forall_mem_cons.mpr ⟨⟨sim_bipush d142_8 (by decide), gr_Push (.int 32) 10⟩,
  List.forall_mem_cons.mpr ⟨⟨sim_icmp_eq d142_10 (by decide), gr_Ic (fun x y => x = y) 26 13⟩,
  List.forall_mem_cons.mpr ⟨⟨sim_aload_n d142_13 rfl, gr_LdA 0 14⟩,
  List.forall_mem_cons.mpr ⟨⟨sim_aload_n d142_14 rfl, gr_LdA 0 15⟩,
  List.forall_mem_cons.mpr ⟨⟨sim_getI d142_15 gf162, gr_GetI (fun k => k = 11) 12 18⟩,
  List.forall_mem_cons.mpr ⟨⟨sim_virtual d142_18 vk100, gr_CalV (fun k => if k = 11 then some 139 else none) 1 21⟩,
  List.forall_mem_cons.mpr ⟨⟨sim_bipush d142_21 (by decide), gr_Push (.int 10) 23⟩,
  List.forall_mem_cons.mpr ⟨⟨sim_icmp_ne d142_23 (by decide), gr_Ic (fun x y => ¬ x = y) 39 26⟩,
  List.forall_mem_cons.mpr ⟨⟨sim_aload_n d142_26 rfl, gr_LdA 0 27⟩,
  List.forall_mem_cons.mpr ⟨⟨sim_dup d142_27, gr_Dup 28⟩,
  List.forall_mem_cons.mpr ⟨⟨sim_getI d142_28 gf162, gr_GetI (fun k => k = 11) 12 31⟩,
  List.forall_mem_cons.mpr ⟨⟨sim_iconst d142_31 (by decide), gr_Push (.int 1) 32⟩,
  List.forall_mem_cons.mpr ⟨⟨sim_iadd d142_32, gr_II (fun x y => x + y) 33⟩,
  List.forall_mem_cons.mpr ⟨⟨sim_putI d142_33 gf162w, gr_PutI (fun k => k = 11) 12 36⟩,
  List.forall_mem_cons.mpr ⟨⟨sim_goto d142_36 (by decide), gr_Go 0⟩,
  List.forall_mem_cons.mpr ⟨⟨sim_aload_n d142_39 rfl, gr_LdA 0 40⟩,
  List.forall_mem_cons.mpr ⟨⟨sim_aload_n d142_40 rfl, gr_LdA 0 41⟩,
  List.forall_mem_cons.mpr ⟨⟨sim_getI d142_41 gf162, gr_GetI (fun k => k = 11) 12 44⟩,
  List.forall_mem_cons.mpr ⟨⟨sim_putI d142_44 gf163w, gr_PutI (fun k => k = 11) 14 47⟩,
  List.forall_mem_cons.mpr ⟨⟨sim_aload_n d142_47 rfl, gr_LdA 0 48⟩,
  List.forall_mem_cons.mpr ⟨⟨sim_aload_n d142_48 rfl, gr_LdA 0 49⟩,
  List.forall_mem_cons.mpr ⟨⟨sim_getI d142_49 gf162, gr_GetI (fun k => k = 11) 12 52⟩,
  List.forall_mem_cons.mpr ⟨⟨sim_virtual d142_52 vk100, gr_CalV (fun k => if k = 11 then some 139 else none) 1 55⟩,
  List.forall_mem_cons.mpr ⟨⟨sim_istore_n d142_55 rfl (by decide), gr_StI 1 56⟩,
  List.forall_mem_cons.mpr ⟨⟨sim_iload_n d142_56 rfl, gr_LdI 1 57⟩,
  List.forall_mem_cons.mpr ⟨⟨sim_ldc d142_57 kw1083, gr_Push (.int (-1000000)) 59⟩,
  List.forall_mem_cons.mpr ⟨⟨sim_icmp_ne d142_59 (by decide), gr_Ic (fun x y => ¬ x = y) 70 62⟩,
  List.forall_mem_cons.mpr ⟨⟨sim_aload_n d142_62 rfl, gr_LdA 0 63⟩,
  List.forall_mem_cons.mpr ⟨⟨sim_iconst d142_63 (by decide), gr_Push (.int 1) 64⟩,
  List.forall_mem_cons.mpr ⟨⟨sim_putI d142_64 gf164w, gr_PutI (fun k => k = 11) 13 67⟩,
  List.forall_mem_cons.mpr ⟨⟨sim_goto d142_67 (by decide), gr_Go 196⟩,
  List.forall_mem_cons.mpr ⟨⟨sim_iload_n d142_70 rfl, gr_LdI 1 71⟩,
  List.forall_mem_cons.mpr ⟨⟨sim_static (y := 140) d142_71 (Or.inl kw1084) kw1085 mo140, gr_Call 140 1 74⟩,
  List.forall_mem_cons.mpr ⟨⟨sim_if_eq d142_74 (by decide), gr_If (fun x => x = 0) 112 77⟩,
  List.forall_mem_cons.mpr ⟨⟨sim_aload_n d142_77 rfl, gr_LdA 0 78⟩,
  List.forall_mem_cons.mpr ⟨⟨sim_aload_n d142_78 rfl, gr_LdA 0 79⟩, fun _ h => absurd h List.not_mem_nil⟩⟩⟩⟩⟩⟩⟩⟩⟩⟩⟩⟩⟩⟩⟩⟩⟩⟩⟩⟩⟩⟩⟩⟩⟩⟩⟩⟩⟩⟩⟩⟩⟩⟩⟩⟩⟩⟩⟩⟩
noncomputable def pg142_1 : List (Nat × aP) := [(79, oGetI (fun k => k = 11) 12 82),
  (82, oCalV (fun k => if k = 11 then some 139 else none) 1 85),
  (85, oCall 140 1 88),
  (88, oIf (fun x => x = 0) 104 91),
  (91, oLdA 0 92),
  (92, oDup 93),
  (93, oGetI (fun k => k = 11) 12 96),
  (96, oPush (.int 1) 97),
  (97, oII (fun x y => x + y) 98),
  (98, oPutI (fun k => k = 11) 12 101),
  (101, oGo 77),
  (104, oLdA 0 105),
  (105, oPush (.int 2) 106),
  (106, oPutI (fun k => k = 11) 13 109),
  (109, oGo 196),
  (112, oLdI 1 113),
  (113, oCall 141 1 116),
  (116, oIf (fun x => x = 0) 171 119),
  (119, oLdA 0 120),
  (120, oLdA 0 121),
  (121, oGetI (fun k => k = 11) 12 124),
  (124, oCalV (fun k => if k = 11 then some 139 else none) 1 127),
  (127, oCall 141 1 130),
  (130, oIf (fun x => x = 0) 146 133),
  (133, oLdA 0 134),
  (134, oDup 135),
  (135, oGetI (fun k => k = 11) 12 138),
  (138, oPush (.int 1) 139),
  (139, oII (fun x y => x + y) 140),
  (140, oPutI (fun k => k = 11) 12 143),
  (143, oGo 119),
  (146, oLdA 0 147),
  (147, oLdA 0 148),
  (148, oGetI (fun k => k = 11) 12 151),
  (151, oLdA 0 152),
  (152, oGetI (fun k => k = 11) 14 155),
  (155, oII (fun x y => x - y) 156),
  (156, oPush (.int 3) 157),
  (157, oIc (fun x y => x ≤ y) 164 160),
  (160, oPush (.int 0) 161)]
theorem ok142_1 : ∀ q ∈ pg142_1, Sim mT mt142 q.1 q.2 ∧ Grow q.2 :=
  List.forall_mem_cons.mpr ⟨⟨sim_getI d142_79 gf162, gr_GetI (fun k => k = 11) 12 82⟩,
  List.forall_mem_cons.mpr ⟨⟨sim_virtual d142_82 vk100, gr_CalV (fun k => if k = 11 then some 139 else none) 1 85⟩,
  List.forall_mem_cons.mpr ⟨⟨sim_static (y := 140) d142_85 (Or.inl kw1084) kw1085 mo140, gr_Call 140 1 88⟩,
  List.forall_mem_cons.mpr ⟨⟨sim_if_eq d142_88 (by decide), gr_If (fun x => x = 0) 104 91⟩,
  List.forall_mem_cons.mpr ⟨⟨sim_aload_n d142_91 rfl, gr_LdA 0 92⟩,
  List.forall_mem_cons.mpr ⟨⟨sim_dup d142_92, gr_Dup 93⟩,
  List.forall_mem_cons.mpr ⟨⟨sim_getI d142_93 gf162, gr_GetI (fun k => k = 11) 12 96⟩,
  List.forall_mem_cons.mpr ⟨⟨sim_iconst d142_96 (by decide), gr_Push (.int 1) 97⟩,
  List.forall_mem_cons.mpr ⟨⟨sim_iadd d142_97, gr_II (fun x y => x + y) 98⟩,
  List.forall_mem_cons.mpr ⟨⟨sim_putI d142_98 gf162w, gr_PutI (fun k => k = 11) 12 101⟩,
  List.forall_mem_cons.mpr ⟨⟨sim_goto d142_101 (by decide), gr_Go 77⟩,
  List.forall_mem_cons.mpr ⟨⟨sim_aload_n d142_104 rfl, gr_LdA 0 105⟩,
  List.forall_mem_cons.mpr ⟨⟨sim_iconst d142_105 (by decide), gr_Push (.int 2) 106⟩,
  List.forall_mem_cons.mpr ⟨⟨sim_putI d142_106 gf164w, gr_PutI (fun k => k = 11) 13 109⟩,
  List.forall_mem_cons.mpr ⟨⟨sim_goto d142_109 (by decide), gr_Go 196⟩,
  List.forall_mem_cons.mpr ⟨⟨sim_iload_n d142_112 rfl, gr_LdI 1 113⟩,
  List.forall_mem_cons.mpr ⟨⟨sim_static (y := 141) d142_113 (Or.inl kw1087) kw1088 mo141, gr_Call 141 1 116⟩,
  List.forall_mem_cons.mpr ⟨⟨sim_if_eq d142_116 (by decide), gr_If (fun x => x = 0) 171 119⟩,
  List.forall_mem_cons.mpr ⟨⟨sim_aload_n d142_119 rfl, gr_LdA 0 120⟩,
  List.forall_mem_cons.mpr ⟨⟨sim_aload_n d142_120 rfl, gr_LdA 0 121⟩,
  List.forall_mem_cons.mpr ⟨⟨sim_getI d142_121 gf162, gr_GetI (fun k => k = 11) 12 124⟩,
  List.forall_mem_cons.mpr ⟨⟨sim_virtual d142_124 vk100, gr_CalV (fun k => if k = 11 then some 139 else none) 1 127⟩,
  List.forall_mem_cons.mpr ⟨⟨sim_static (y := 141) d142_127 (Or.inl kw1087) kw1088 mo141, gr_Call 141 1 130⟩,
  List.forall_mem_cons.mpr ⟨⟨sim_if_eq d142_130 (by decide), gr_If (fun x => x = 0) 146 133⟩,
  List.forall_mem_cons.mpr ⟨⟨sim_aload_n d142_133 rfl, gr_LdA 0 134⟩,
  List.forall_mem_cons.mpr ⟨⟨sim_dup d142_134, gr_Dup 135⟩,
  List.forall_mem_cons.mpr ⟨⟨sim_getI d142_135 gf162, gr_GetI (fun k => k = 11) 12 138⟩,
  List.forall_mem_cons.mpr ⟨⟨sim_iconst d142_138 (by decide), gr_Push (.int 1) 139⟩,
  List.forall_mem_cons.mpr ⟨⟨sim_iadd d142_139, gr_II (fun x y => x + y) 140⟩,
  List.forall_mem_cons.mpr ⟨⟨sim_putI d142_140 gf162w, gr_PutI (fun k => k = 11) 12 143⟩,
  List.forall_mem_cons.mpr ⟨⟨sim_goto d142_143 (by decide), gr_Go 119⟩,
  List.forall_mem_cons.mpr ⟨⟨sim_aload_n d142_146 rfl, gr_LdA 0 147⟩,
  List.forall_mem_cons.mpr ⟨⟨sim_aload_n d142_147 rfl, gr_LdA 0 148⟩,
  List.forall_mem_cons.mpr ⟨⟨sim_getI d142_148 gf162, gr_GetI (fun k => k = 11) 12 151⟩,
  List.forall_mem_cons.mpr ⟨⟨sim_aload_n d142_151 rfl, gr_LdA 0 152⟩,
  List.forall_mem_cons.mpr ⟨⟨sim_getI d142_152 gf163, gr_GetI (fun k => k = 11) 14 155⟩,
  List.forall_mem_cons.mpr ⟨⟨sim_isub d142_155, gr_II (fun x y => x - y) 156⟩,
  List.forall_mem_cons.mpr ⟨⟨sim_iconst d142_156 (by decide), gr_Push (.int 3) 157⟩,
  List.forall_mem_cons.mpr ⟨⟨sim_icmp_le d142_157 (by decide), gr_Ic (fun x y => x ≤ y) 164 160⟩,
  List.forall_mem_cons.mpr ⟨⟨sim_iconst d142_160 (by decide), gr_Push (.int 0) 161⟩, fun _ h => absurd h List.not_mem_nil⟩⟩⟩⟩⟩⟩⟩⟩⟩⟩⟩⟩⟩⟩⟩⟩⟩⟩⟩⟩⟩⟩⟩⟩⟩⟩⟩⟩⟩⟩⟩⟩⟩⟩⟩⟩⟩⟩⟩⟩
noncomputable def pg142_2 : List (Nat × aP) := [(161, oGo 165),
  (164, oPush (.int 3) 165),
  (165, oPutI (fun k => k = 11) 13 168),
  (168, oGo 196),
  (171, oLdA 0 172),
  (172, oDup 173),
  (173, oGetI (fun k => k = 11) 12 176),
  (176, oPush (.int 1) 177),
  (177, oII (fun x y => x + y) 178),
  (178, oPutI (fun k => k = 11) 12 181),
  (181, oLdA 0 182),
  (182, oLdI 1 183),
  (183, oPush (.int 59) 185),
  (185, oIc (fun x y => ¬ x = y) 192 188),
  (188, oPush (.int 4) 189),
  (189, oGo 193),
  (192, oPush (.int 0) 193),
  (193, oPutI (fun k => k = 11) 13 196),
  (196, oLdA 0 197),
  (197, oLdA 0 198),
  (198, oGetI (fun k => k = 11) 12 201),
  (201, oPutI (fun k => k = 11) 15 204),
  (204, oRetV)]
theorem ok142_2 : ∀ q ∈ pg142_2, Sim mT mt142 q.1 q.2 ∧ Grow q.2 :=
  List.forall_mem_cons.mpr ⟨⟨sim_goto d142_161 (by decide), gr_Go 165⟩,
  List.forall_mem_cons.mpr ⟨⟨sim_iconst d142_164 (by decide), gr_Push (.int 3) 165⟩,
  List.forall_mem_cons.mpr ⟨⟨sim_putI d142_165 gf164w, gr_PutI (fun k => k = 11) 13 168⟩,
  List.forall_mem_cons.mpr ⟨⟨sim_goto d142_168 (by decide), gr_Go 196⟩,
  List.forall_mem_cons.mpr ⟨⟨sim_aload_n d142_171 rfl, gr_LdA 0 172⟩,
  List.forall_mem_cons.mpr ⟨⟨sim_dup d142_172, gr_Dup 173⟩,
  List.forall_mem_cons.mpr ⟨⟨sim_getI d142_173 gf162, gr_GetI (fun k => k = 11) 12 176⟩,
  List.forall_mem_cons.mpr ⟨⟨sim_iconst d142_176 (by decide), gr_Push (.int 1) 177⟩,
  List.forall_mem_cons.mpr ⟨⟨sim_iadd d142_177, gr_II (fun x y => x + y) 178⟩,
  List.forall_mem_cons.mpr ⟨⟨sim_putI d142_178 gf162w, gr_PutI (fun k => k = 11) 12 181⟩,
  List.forall_mem_cons.mpr ⟨⟨sim_aload_n d142_181 rfl, gr_LdA 0 182⟩,
  List.forall_mem_cons.mpr ⟨⟨sim_iload_n d142_182 rfl, gr_LdI 1 183⟩,
  List.forall_mem_cons.mpr ⟨⟨sim_bipush d142_183 (by decide), gr_Push (.int 59) 185⟩,
  List.forall_mem_cons.mpr ⟨⟨sim_icmp_ne d142_185 (by decide), gr_Ic (fun x y => ¬ x = y) 192 188⟩,
  List.forall_mem_cons.mpr ⟨⟨sim_iconst d142_188 (by decide), gr_Push (.int 4) 189⟩,
  List.forall_mem_cons.mpr ⟨⟨sim_goto d142_189 (by decide), gr_Go 193⟩,
  List.forall_mem_cons.mpr ⟨⟨sim_iconst d142_192 (by decide), gr_Push (.int 0) 193⟩,
  List.forall_mem_cons.mpr ⟨⟨sim_putI d142_193 gf164w, gr_PutI (fun k => k = 11) 13 196⟩,
  List.forall_mem_cons.mpr ⟨⟨sim_aload_n d142_196 rfl, gr_LdA 0 197⟩,
  List.forall_mem_cons.mpr ⟨⟨sim_aload_n d142_197 rfl, gr_LdA 0 198⟩,
  List.forall_mem_cons.mpr ⟨⟨sim_getI d142_198 gf162, gr_GetI (fun k => k = 11) 12 201⟩,
  List.forall_mem_cons.mpr ⟨⟨sim_putI d142_201 gf165w, gr_PutI (fun k => k = 11) 15 204⟩,
  List.forall_mem_cons.mpr ⟨⟨sim_return d142_204 rfl, gr_RetV⟩, fun _ h => absurd h List.not_mem_nil⟩⟩⟩⟩⟩⟩⟩⟩⟩⟩⟩⟩⟩⟩⟩⟩⟩⟩⟩⟩⟩⟩⟩
noncomputable def pg142 : List (Nat × aP) := pg142_0 ++ (pg142_1 ++ (pg142_2))
theorem ok142 : ∀ q ∈ pg142, Sim mT mt142 q.1 q.2 ∧ Grow q.2 := List.forall_mem_append.mpr ⟨ok142_0, List.forall_mem_append.mpr ⟨ok142_1, ok142_2⟩⟩
theorem d143_0 : decode mt143.2.1 0 = .ok (.aload_n 0, 1) := by decide +kernel
theorem d143_1 : decode mt143.2.1 1 = .ok (.aload_n 0, 1) := by decide +kernel
theorem d143_2 : decode mt143.2.1 2 = .ok (.getfield 101, 3) := by decide +kernel
theorem d143_5 : decode mt143.2.1 5 = .ok (.putfield 107, 3) := by decide +kernel
theorem d143_8 : decode mt143.2.1 8 = .ok (.aload_n 0, 1) := by decide +kernel
theorem d143_9 : decode mt143.2.1 9 = .ok (.iconst 0, 1) := by decide +kernel
theorem d143_10 : decode mt143.2.1 10 = .ok (.putfield 101, 3) := by decide +kernel
theorem d143_13 : decode mt143.2.1 13 = .ok (.aload_n 0, 1) := by decide +kernel
theorem d143_14 : decode mt143.2.1 14 = .ok (.iconst 0, 1) := by decide +kernel
theorem d143_15 : decode mt143.2.1 15 = .ok (.putfield 111, 3) := by decide +kernel
theorem d143_18 : decode mt143.2.1 18 = .ok (.aload_n 0, 1) := by decide +kernel
theorem d143_19 : decode mt143.2.1 19 = .ok (.iconst 0, 1) := by decide +kernel
theorem d143_20 : decode mt143.2.1 20 = .ok (.putfield 132, 3) := by decide +kernel
theorem d143_23 : decode mt143.2.1 23 = .ok (.aload_n 0, 1) := by decide +kernel
theorem d143_24 : decode mt143.2.1 24 = .ok (.invokevirtual 135, 3) := by decide +kernel
theorem d143_27 : decode mt143.2.1 27 = .ok (.return_, 1) := by decide +kernel
noncomputable def pg143_0 : List (Nat × aP) := [(0, oLdA 0 1),
  (1, oLdA 0 2),
  (2, oGetI (fun k => k = 11) 9 5),
  (5, oPutI (fun k => k = 11) 11 8),
  (8, oLdA 0 9),
  (9, oPush (.int 0) 10),
  (10, oPutI (fun k => k = 11) 9 13),
  (13, oLdA 0 14),
  (14, oPush (.int 0) 15),
  (15, oPutI (fun k => k = 11) 12 18),
  (18, oLdA 0 19),
  (19, oPush (.int 0) 20),
  (20, oPutI (fun k => k = 11) 16 23),
  (23, oLdA 0 24),
  (24, oCalV (fun k => if k = 11 then some 142 else none) 0 27),
  (27, oRetV)]
theorem ok143_0 : ∀ q ∈ pg143_0, Sim mT mt143 q.1 q.2 ∧ Grow q.2 :=
  List.forall_mem_cons.mpr ⟨⟨sim_aload_n d143_0 rfl, gr_LdA 0 1⟩,
  List.forall_mem_cons.mpr ⟨⟨sim_aload_n d143_1 rfl, gr_LdA 0 2⟩,
  List.forall_mem_cons.mpr ⟨⟨sim_getI d143_2 gf159, gr_GetI (fun k => k = 11) 9 5⟩,
  List.forall_mem_cons.mpr ⟨⟨sim_putI d143_5 gf161w, gr_PutI (fun k => k = 11) 11 8⟩,
  List.forall_mem_cons.mpr ⟨⟨sim_aload_n d143_8 rfl, gr_LdA 0 9⟩,
  List.forall_mem_cons.mpr ⟨⟨sim_iconst d143_9 (by decide), gr_Push (.int 0) 10⟩,
  List.forall_mem_cons.mpr ⟨⟨sim_putI d143_10 gf159w, gr_PutI (fun k => k = 11) 9 13⟩,
  List.forall_mem_cons.mpr ⟨⟨sim_aload_n d143_13 rfl, gr_LdA 0 14⟩,
  List.forall_mem_cons.mpr ⟨⟨sim_iconst d143_14 (by decide), gr_Push (.int 0) 15⟩,
  List.forall_mem_cons.mpr ⟨⟨sim_putI d143_15 gf162w, gr_PutI (fun k => k = 11) 12 18⟩,
  List.forall_mem_cons.mpr ⟨⟨sim_aload_n d143_18 rfl, gr_LdA 0 19⟩,
  List.forall_mem_cons.mpr ⟨⟨sim_iconst d143_19 (by decide), gr_Push (.int 0) 20⟩,
  List.forall_mem_cons.mpr ⟨⟨sim_putI d143_20 gf166w, gr_PutI (fun k => k = 11) 16 23⟩,
  List.forall_mem_cons.mpr ⟨⟨sim_aload_n d143_23 rfl, gr_LdA 0 24⟩,
  List.forall_mem_cons.mpr ⟨⟨sim_virtual d143_24 vk101, gr_CalV (fun k => if k = 11 then some 142 else none) 0 27⟩,
  List.forall_mem_cons.mpr ⟨⟨sim_return d143_27 rfl, gr_RetV⟩, fun _ h => absurd h List.not_mem_nil⟩⟩⟩⟩⟩⟩⟩⟩⟩⟩⟩⟩⟩⟩⟩⟩
noncomputable def pg143 : List (Nat × aP) := pg143_0
theorem ok143 : ∀ q ∈ pg143, Sim mT mt143 q.1 q.2 ∧ Grow q.2 := ok143_0
theorem d144_0 : decode mt144.2.1 0 = .ok (.aload_n 0, 1) := by decide +kernel
theorem d144_1 : decode mt144.2.1 1 = .ok (.getfield 132, 3) := by decide +kernel
theorem d144_4 : decode mt144.2.1 4 = .ok (.ifCond .ne 16, 3) := by decide +kernel
theorem d144_7 : decode mt144.2.1 7 = .ok (.aload_n 0, 1) := by decide +kernel
theorem d144_8 : decode mt144.2.1 8 = .ok (.iload_n 1, 1) := by decide +kernel
theorem d144_9 : decode mt144.2.1 9 = .ok (.putfield 132, 3) := by decide +kernel
theorem d144_12 : decode mt144.2.1 12 = .ok (.aload_n 0, 1) := by decide +kernel
theorem d144_13 : decode mt144.2.1 13 = .ok (.aload_n 0, 1) := by decide +kernel
theorem d144_14 : decode mt144.2.1 14 = .ok (.getfield 117, 3) := by decide +kernel
theorem d144_17 : decode mt144.2.1 17 = .ok (.putfield 138, 3) := by decide +kernel
theorem d144_20 : decode mt144.2.1 20 = .ok (.return_, 1) := by decide +kernel
noncomputable def pg144_0 : List (Nat × aP) := [(0, oLdA 0 1),
  (1, oGetI (fun k => k = 11) 16 4),
  (4, oIf (fun x => ¬ x = 0) 20 7),
  (7, oLdA 0 8),
  (8, oLdI 1 9),
  (9, oPutI (fun k => k = 11) 16 12),
  (12, oLdA 0 13),
  (13, oLdA 0 14),
  (14, oGetI (fun k => k = 11) 14 17),
  (17, oPutI (fun k => k = 11) 17 20),
  (20, oRetV)]
theorem ok144_0 : ∀ q ∈ pg144_0, Sim mT mt144 q.1 q.2 ∧ Grow q.2 :=
  List.forall_mem_cons.mpr ⟨⟨sim_aload_n d144_0 rfl, gr_LdA 0 1⟩,
  List.forall_mem_cons.mpr ⟨⟨sim_getI d144_1 gf166, gr_GetI (fun k => k = 11) 16 4⟩,
  List.forall_mem_cons.mpr ⟨⟨sim_if_ne d144_4 (by decide), gr_If (fun x => ¬ x = 0) 20 7⟩,
  List.forall_mem_cons.mpr ⟨⟨sim_aload_n d144_7 rfl, gr_LdA 0 8⟩,
  List.forall_mem_cons.mpr ⟨⟨sim_iload_n d144_8 rfl, gr_LdI 1 9⟩,
  List.forall_mem_cons.mpr ⟨⟨sim_putI d144_9 gf166w, gr_PutI (fun k => k = 11) 16 12⟩,
  List.forall_mem_cons.mpr ⟨⟨sim_aload_n d144_12 rfl, gr_LdA 0 13⟩,
  List.forall_mem_cons.mpr ⟨⟨sim_aload_n d144_13 rfl, gr_LdA 0 14⟩,
  List.forall_mem_cons.mpr ⟨⟨sim_getI d144_14 gf163, gr_GetI (fun k => k = 11) 14 17⟩,
  List.forall_mem_cons.mpr ⟨⟨sim_putI d144_17 gf167w, gr_PutI (fun k => k = 11) 17 20⟩,
  List.forall_mem_cons.mpr ⟨⟨sim_return d144_20 rfl, gr_RetV⟩, fun _ h => absurd h List.not_mem_nil⟩⟩⟩⟩⟩⟩⟩⟩⟩⟩⟩
noncomputable def pg144 : List (Nat × aP) := pg144_0
theorem ok144 : ∀ q ∈ pg144, Sim mT mt144 q.1 q.2 ∧ Grow q.2 := ok144_0
theorem d145_0 : decode mt145.2.1 0 = .ok (.iload_n 1, 1) := by decide +kernel
theorem d145_1 : decode mt145.2.1 1 = .ok (.ifCond .ne 8, 3) := by decide +kernel
theorem d145_4 : decode mt145.2.1 4 = .ok (.aload_n 0, 1) := by decide +kernel
theorem d145_5 : decode mt145.2.1 5 = .ok (.iconst 1, 1) := by decide +kernel
theorem d145_6 : decode mt145.2.1 6 = .ok (.invokevirtual 141, 3) := by decide +kernel
theorem d145_9 : decode mt145.2.1 9 = .ok (.aload_n 0, 1) := by decide +kernel
theorem d145_10 : decode mt145.2.1 10 = .ok (.getfield 132, 3) := by decide +kernel
theorem d145_13 : decode mt145.2.1 13 = .ok (.ifCond .ne 7, 3) := by decide +kernel
theorem d145_16 : decode mt145.2.1 16 = .ok (.aload_n 0, 1) := by decide +kernel
theorem d145_17 : decode mt145.2.1 17 = .ok (.invokevirtual 135, 3) := by decide +kernel
theorem d145_20 : decode mt145.2.1 20 = .ok (.return_, 1) := by decide +kernel
noncomputable def pg145_0 : List (Nat × aP) := [(0, oLdI 1 1),
  (1, oIf (fun x => ¬ x = 0) 9 4),
  (4, oLdA 0 5),
  (5, oPush (.int 1) 6),
  (6, oCalV (fun k => if k = 11 then some 144 else none) 1 9),
  (9, oLdA 0 10),
  (10, oGetI (fun k => k = 11) 16 13),
  (13, oIf (fun x => ¬ x = 0) 20 16),
  (16, oLdA 0 17),
  (17, oCalV (fun k => if k = 11 then some 142 else none) 0 20),
  (20, oRetV)]
theorem ok145_0 : ∀ q ∈ pg145_0, Sim mT mt145 q.1 q.2 ∧ Grow q.2 :=
  List.forall_mem_cons.mpr ⟨⟨sim_iload_n d145_0 rfl, gr_LdI 1 1⟩,
  List.forall_mem_cons.mpr ⟨⟨sim_if_ne d145_1 (by decide), gr_If (fun x => ¬ x = 0) 9 4⟩,
  List.forall_mem_cons.mpr ⟨⟨sim_aload_n d145_4 rfl, gr_LdA 0 5⟩,
  List.forall_mem_cons.mpr ⟨⟨sim_iconst d145_5 (by decide), gr_Push (.int 1) 6⟩,
  List.forall_mem_cons.mpr ⟨⟨sim_virtual d145_6 vk102, gr_CalV (fun k => if k = 11 then some 144 else none) 1 9⟩,
  List.forall_mem_cons.mpr ⟨⟨sim_aload_n d145_9 rfl, gr_LdA 0 10⟩,
  List.forall_mem_cons.mpr ⟨⟨sim_getI d145_10 gf166, gr_GetI (fun k => k = 11) 16 13⟩,
  List.forall_mem_cons.mpr ⟨⟨sim_if_ne d145_13 (by decide), gr_If (fun x => ¬ x = 0) 20 16⟩,
  List.forall_mem_cons.mpr ⟨⟨sim_aload_n d145_16 rfl, gr_LdA 0 17⟩,
  List.forall_mem_cons.mpr ⟨⟨sim_virtual d145_17 vk101, gr_CalV (fun k => if k = 11 then some 142 else none) 0 20⟩,
  List.forall_mem_cons.mpr ⟨⟨sim_return d145_20 rfl, gr_RetV⟩, fun _ h => absurd h List.not_mem_nil⟩⟩⟩⟩⟩⟩⟩⟩⟩⟩⟩
noncomputable def pg145 : List (Nat × aP) := pg145_0
theorem ok145 : ∀ q ∈ pg145, Sim mT mt145 q.1 q.2 ∧ Grow q.2 := ok145_0
theorem d146_0 : decode mt146.2.1 0 = .ok (.lconst 0, 1) := by decide +kernel
theorem d146_1 : decode mt146.2.1 1 = .ok (.lstore_n 1, 1) := by decide +kernel
theorem d146_2 : decode mt146.2.1 2 = .ok (.aload_n 0, 1) := by decide +kernel
theorem d146_3 : decode mt146.2.1 3 = .ok (.getfield 117, 3) := by decide +kernel
theorem d146_6 : decode mt146.2.1 6 = .ok (.istore_n 3, 1) := by decide +kernel
theorem d146_7 : decode mt146.2.1 7 = .ok (.iload_n 3, 1) := by decide +kernel
theorem d146_8 : decode mt146.2.1 8 = .ok (.aload_n 0, 1) := by decide +kernel
theorem d146_9 : decode mt146.2.1 9 = .ok (.getfield 129, 3) := by decide +kernel
theorem d146_12 : decode mt146.2.1 12 = .ok (.if_icmp .ge 44, 3) := by decide +kernel
theorem d146_15 : decode mt146.2.1 15 = .ok (.aload_n 0, 1) := by decide +kernel
theorem d146_16 : decode mt146.2.1 16 = .ok (.getfield 120, 3) := by decide +kernel
theorem d146_19 : decode mt146.2.1 19 = .ok (.iconst 2, 1) := by decide +kernel
theorem d146_20 : decode mt146.2.1 20 = .ok (.if_icmp .ne 36, 3) := by decide +kernel
theorem d146_23 : decode mt146.2.1 23 = .ok (.aload_n 0, 1) := by decide +kernel
theorem d146_24 : decode mt146.2.1 24 = .ok (.getfield 129, 3) := by decide +kernel
theorem d146_27 : decode mt146.2.1 27 = .ok (.aload_n 0, 1) := by decide +kernel
theorem d146_28 : decode mt146.2.1 28 = .ok (.getfield 117, 3) := by decide +kernel
theorem d146_31 : decode mt146.2.1 31 = .ok (.isub, 1) := by decide +kernel
theorem d146_32 : decode mt146.2.1 32 = .ok (.bipush 8, 2) := by decide +kernel
theorem d146_34 : decode mt146.2.1 34 = .ok (.if_icmp .ge 22, 3) := by decide +kernel
theorem d146_37 : decode mt146.2.1 37 = .ok (.lload_n 1, 1) := by decide +kernel
theorem d146_38 : decode mt146.2.1 38 = .ok (.bipush 8, 2) := by decide +kernel
theorem d146_40 : decode mt146.2.1 40 = .ok (.lshl, 1) := by decide +kernel
theorem d146_41 : decode mt146.2.1 41 = .ok (.aload_n 0, 1) := by decide +kernel
theorem d146_42 : decode mt146.2.1 42 = .ok (.getfield 25, 3) := by decide +kernel
theorem d146_45 : decode mt146.2.1 45 = .ok (.iload_n 3, 1) := by decide +kernel
theorem d146_46 : decode mt146.2.1 46 = .ok (.iaload, 1) := by decide +kernel
theorem d146_47 : decode mt146.2.1 47 = .ok (.i2l, 1) := by decide +kernel
theorem d146_48 : decode mt146.2.1 48 = .ok (.lor, 1) := by decide +kernel
theorem d146_49 : decode mt146.2.1 49 = .ok (.lstore_n 1, 1) := by decide +kernel
theorem d146_50 : decode mt146.2.1 50 = .ok (.iinc 3 1, 3) := by decide +kernel
theorem d146_53 : decode mt146.2.1 53 = .ok (.goto (-46), 3) := by decide +kernel
theorem d146_56 : decode mt146.2.1 56 = .ok (.aload_n 0, 1) := by decide +kernel
theorem d146_57 : decode mt146.2.1 57 = .ok (.getfield 132, 3) := by decide +kernel
theorem d146_60 : decode mt146.2.1 60 = .ok (.ifCond .ne 7, 3) := by decide +kernel
theorem d146_63 : decode mt146.2.1 63 = .ok (.lload_n 1, 1) := by decide +kernel
theorem d146_64 : decode mt146.2.1 64 = .ok (.goto 4, 3) := by decide +kernel
theorem d146_67 : decode mt146.2.1 67 = .ok (.lconst 0, 1) := by decide +kernel
theorem d146_68 : decode mt146.2.1 68 = .ok (.lreturn, 1) := by decide +kernel
noncomputable def pg146_0 : List (Nat × aP) := [(0, oPush (.long 0) 1),
  (1, oStL 1 2),
  (2, oLdA 0 3),
  (3, oGetI (fun k => k = 11) 14 6),
  (6, oStI 3 7),
  (7, oLdI 3 8),
  (8, oLdA 0 9),
  (9, oGetI (fun k => k = 11) 15 12),
  (12, oIc (fun x y => y ≤ x) 56 15),
  (15, oLdA 0 16),
  (16, oGetI (fun k => k = 11) 13 19),
  (19, oPush (.int 2) 20),
  (20, oIc (fun x y => ¬ x = y) 56 23),
  (23, oLdA 0 24),
  (24, oGetI (fun k => k = 11) 15 27),
  (27, oLdA 0 28),
  (28, oGetI (fun k => k = 11) 14 31),
  (31, oII (fun x y => x - y) 32),
  (32, oPush (.int 8) 34),
  (34, oIc (fun x y => y ≤ x) 56 37),
  (37, oLdL 1 38),
  (38, oPush (.int 8) 40),
  (40, oLSh (fun x y => x <<< (y.toInt64 &&& 63)) 41),
  (41, oLdA 0 42),
  (42, oGetF (fun k => k = 11) 8 45),
  (45, oLdI 3 46),
  (46, oALdI 47),
  (47, oIL (fun x => x.toInt64) 48),
  (48, oLL (fun x y => x ||| y) 49),
  (49, oStL 1 50),
  (50, oInc 3 1 53),
  (53, oGo 7),
  (56, oLdA 0 57),
  (57, oGetI (fun k => k = 11) 16 60),
  (60, oIf (fun x => ¬ x = 0) 67 63),
  (63, oLdL 1 64),
  (64, oGo 68),
  (67, oPush (.long 0) 68),
  (68, oRetL)]
theorem ok146_0 : ∀ q ∈ pg146_0, Sim mT mt146 q.1 q.2 ∧ Grow q.2 :=
  List.forall_mem_cons.mpr ⟨⟨sim_lconst d146_0 (by decide), gr_Push (.long 0) 1⟩,
  List.forall_mem_cons.mpr ⟨⟨sim_lstore_n d146_1 rfl (by decide), gr_StL 1 2⟩,
  List.forall_mem_cons.mpr ⟨⟨sim_aload_n d146_2 rfl, gr_LdA 0 3⟩,
  List.forall_mem_cons.mpr ⟨⟨sim_getI d146_3 gf163, gr_GetI (fun k => k = 11) 14 6⟩,
  List.forall_mem_cons.mpr ⟨⟨sim_istore_n d146_6 rfl (by decide), gr_StI 3 7⟩,
  List.forall_mem_cons.mpr ⟨⟨sim_iload_n d146_7 rfl, gr_LdI 3 8⟩,
  List.forall_mem_cons.mpr ⟨⟨sim_aload_n d146_8 rfl, gr_LdA 0 9⟩,
  List.forall_mem_cons.mpr ⟨⟨sim_getI d146_9 gf165, gr_GetI (fun k => k = 11) 15 12⟩,
  List.forall_mem_cons.mpr ⟨⟨sim_icmp_ge d146_12 (by decide), gr_Ic (fun x y => y ≤ x) 56 15⟩,
  List.forall_mem_cons.mpr ⟨⟨sim_aload_n d146_15 rfl, gr_LdA 0 16⟩,
  List.forall_mem_cons.mpr ⟨⟨sim_getI d146_16 gf164, gr_GetI (fun k => k = 11) 13 19⟩,
  List.forall_mem_cons.mpr ⟨⟨sim_iconst d146_19 (by decide), gr_Push (.int 2) 20⟩,
  List.forall_mem_cons.mpr ⟨⟨sim_icmp_ne d146_20 (by decide), gr_Ic (fun x y => ¬ x = y) 56 23⟩,
  List.forall_mem_cons.mpr ⟨⟨sim_aload_n d146_23 rfl, gr_LdA 0 24⟩,
  List.forall_mem_cons.mpr ⟨⟨sim_getI d146_24 gf165, gr_GetI (fun k => k = 11) 15 27⟩,
  List.forall_mem_cons.mpr ⟨⟨sim_aload_n d146_27 rfl, gr_LdA 0 28⟩,
  List.forall_mem_cons.mpr ⟨⟨sim_getI d146_28 gf163, gr_GetI (fun k => k = 11) 14 31⟩,
  List.forall_mem_cons.mpr ⟨⟨sim_isub d146_31, gr_II (fun x y => x - y) 32⟩,
  List.forall_mem_cons.mpr ⟨⟨sim_bipush d146_32 (by decide), gr_Push (.int 8) 34⟩,
  List.forall_mem_cons.mpr ⟨⟨sim_icmp_ge d146_34 (by decide), gr_Ic (fun x y => y ≤ x) 56 37⟩,
  List.forall_mem_cons.mpr ⟨⟨sim_lload_n d146_37 rfl, gr_LdL 1 38⟩,
  List.forall_mem_cons.mpr ⟨⟨sim_bipush d146_38 (by decide), gr_Push (.int 8) 40⟩,
  List.forall_mem_cons.mpr ⟨⟨sim_lshl d146_40, gr_LSh (fun x y => x <<< (y.toInt64 &&& 63)) 41⟩,
  List.forall_mem_cons.mpr ⟨⟨sim_aload_n d146_41 rfl, gr_LdA 0 42⟩,
  List.forall_mem_cons.mpr ⟨⟨sim_getF d146_42 gf160, gr_GetF (fun k => k = 11) 8 45⟩,
  List.forall_mem_cons.mpr ⟨⟨sim_iload_n d146_45 rfl, gr_LdI 3 46⟩,
  List.forall_mem_cons.mpr ⟨⟨sim_iaload d146_46, gr_ALdI 47⟩,
  List.forall_mem_cons.mpr ⟨⟨sim_i2l d146_47, gr_IL (fun x => x.toInt64) 48⟩,
  List.forall_mem_cons.mpr ⟨⟨sim_lor d146_48, gr_LL (fun x y => x ||| y) 49⟩,
  List.forall_mem_cons.mpr ⟨⟨sim_lstore_n d146_49 rfl (by decide), gr_StL 1 50⟩,
  List.forall_mem_cons.mpr ⟨⟨sim_iinc d146_50 (by decide) (by decide), gr_Inc 3 1 53⟩,
  List.forall_mem_cons.mpr ⟨⟨sim_goto d146_53 (by decide), gr_Go 7⟩,
  List.forall_mem_cons.mpr ⟨⟨sim_aload_n d146_56 rfl, gr_LdA 0 57⟩,
  List.forall_mem_cons.mpr ⟨⟨sim_getI d146_57 gf166, gr_GetI (fun k => k = 11) 16 60⟩,
  List.forall_mem_cons.mpr ⟨⟨sim_if_ne d146_60 (by decide), gr_If (fun x => ¬ x = 0) 67 63⟩,
  List.forall_mem_cons.mpr ⟨⟨sim_lload_n d146_63 rfl, gr_LdL 1 64⟩,
  List.forall_mem_cons.mpr ⟨⟨sim_goto d146_64 (by decide), gr_Go 68⟩,
  List.forall_mem_cons.mpr ⟨⟨sim_lconst d146_67 (by decide), gr_Push (.long 0) 68⟩,
  List.forall_mem_cons.mpr ⟨⟨sim_lreturn d146_68 rfl, gr_RetL⟩, fun _ h => absurd h List.not_mem_nil⟩⟩⟩⟩⟩⟩⟩⟩⟩⟩⟩⟩⟩⟩⟩⟩⟩⟩⟩⟩⟩⟩⟩⟩⟩⟩⟩⟩⟩⟩⟩⟩⟩⟩⟩⟩⟩⟩⟩
noncomputable def pg146 : List (Nat × aP) := pg146_0
theorem ok146 : ∀ q ∈ pg146, Sim mT mt146 q.1 q.2 ∧ Grow q.2 := ok146_0
theorem d147_0 : decode mt147.2.1 0 = .ok (.iconst 0, 1) := by decide +kernel
theorem d147_1 : decode mt147.2.1 1 = .ok (.istore_n 1, 1) := by decide +kernel
theorem d147_2 : decode mt147.2.1 2 = .ok (.aload_n 0, 1) := by decide +kernel
theorem d147_3 : decode mt147.2.1 3 = .ok (.getfield 117, 3) := by decide +kernel
theorem d147_6 : decode mt147.2.1 6 = .ok (.istore_n 2, 1) := by decide +kernel
theorem d147_7 : decode mt147.2.1 7 = .ok (.iload_n 2, 1) := by decide +kernel
theorem d147_8 : decode mt147.2.1 8 = .ok (.aload_n 0, 1) := by decide +kernel
theorem d147_9 : decode mt147.2.1 9 = .ok (.getfield 129, 3) := by decide +kernel
theorem d147_12 : decode mt147.2.1 12 = .ok (.if_icmp .ge 32, 3) := by decide +kernel
theorem d147_15 : decode mt147.2.1 15 = .ok (.aload_n 0, 1) := by decide +kernel
theorem d147_16 : decode mt147.2.1 16 = .ok (.getfield 120, 3) := by decide +kernel
theorem d147_19 : decode mt147.2.1 19 = .ok (.iconst 3, 1) := by decide +kernel
theorem d147_20 : decode mt147.2.1 20 = .ok (.if_icmp .ne 24, 3) := by decide +kernel
theorem d147_23 : decode mt147.2.1 23 = .ok (.bipush 10, 2) := by decide +kernel
theorem d147_25 : decode mt147.2.1 25 = .ok (.iload_n 1, 1) := by decide +kernel
theorem d147_26 : decode mt147.2.1 26 = .ok (.imul, 1) := by decide +kernel
theorem d147_27 : decode mt147.2.1 27 = .ok (.aload_n 0, 1) := by decide +kernel
theorem d147_28 : decode mt147.2.1 28 = .ok (.getfield 25, 3) := by decide +kernel
theorem d147_31 : decode mt147.2.1 31 = .ok (.iload_n 2, 1) := by decide +kernel
theorem d147_32 : decode mt147.2.1 32 = .ok (.iaload, 1) := by decide +kernel
theorem d147_33 : decode mt147.2.1 33 = .ok (.iadd, 1) := by decide +kernel
theorem d147_34 : decode mt147.2.1 34 = .ok (.bipush 48, 2) := by decide +kernel
theorem d147_36 : decode mt147.2.1 36 = .ok (.isub, 1) := by decide +kernel
theorem d147_37 : decode mt147.2.1 37 = .ok (.istore_n 1, 1) := by decide +kernel
theorem d147_38 : decode mt147.2.1 38 = .ok (.iinc 2 1, 3) := by decide +kernel
theorem d147_41 : decode mt147.2.1 41 = .ok (.goto (-34), 3) := by decide +kernel
theorem d147_44 : decode mt147.2.1 44 = .ok (.iload_n 1, 1) := by decide +kernel
theorem d147_45 : decode mt147.2.1 45 = .ok (.ireturn, 1) := by decide +kernel
noncomputable def pg147_0 : List (Nat × aP) := [(0, oPush (.int 0) 1),
  (1, oStI 1 2),
  (2, oLdA 0 3),
  (3, oGetI (fun k => k = 11) 14 6),
  (6, oStI 2 7),
  (7, oLdI 2 8),
  (8, oLdA 0 9),
  (9, oGetI (fun k => k = 11) 15 12),
  (12, oIc (fun x y => y ≤ x) 44 15),
  (15, oLdA 0 16),
  (16, oGetI (fun k => k = 11) 13 19),
  (19, oPush (.int 3) 20),
  (20, oIc (fun x y => ¬ x = y) 44 23),
  (23, oPush (.int 10) 25),
  (25, oLdI 1 26),
  (26, oII (fun x y => x * y) 27),
  (27, oLdA 0 28),
  (28, oGetF (fun k => k = 11) 8 31),
  (31, oLdI 2 32),
  (32, oALdI 33),
  (33, oII (fun x y => x + y) 34),
  (34, oPush (.int 48) 36),
  (36, oII (fun x y => x - y) 37),
  (37, oStI 1 38),
  (38, oInc 2 1 41),
  (41, oGo 7),
  (44, oLdI 1 45),
  (45, oRetI)]
theorem ok147_0 : ∀ q ∈ pg147_0, Sim mT mt147 q.1 q.2 ∧ Grow q.2 :=
  List.forall_mem_cons.mpr ⟨⟨sim_iconst d147_0 (by decide), gr_Push (.int 0) 1⟩,
  List.forall_mem_cons.mpr ⟨⟨sim_istore_n d147_1 rfl (by decide), gr_StI 1 2⟩,
  List.forall_mem_cons.mpr ⟨⟨sim_aload_n d147_2 rfl, gr_LdA 0 3⟩,
  List.forall_mem_cons.mpr ⟨⟨sim_getI d147_3 gf163, gr_GetI (fun k => k = 11) 14 6⟩,
  List.forall_mem_cons.mpr ⟨⟨sim_istore_n d147_6 rfl (by decide), gr_StI 2 7⟩,
  List.forall_mem_cons.mpr ⟨⟨sim_iload_n d147_7 rfl, gr_LdI 2 8⟩,
  List.forall_mem_cons.mpr ⟨⟨sim_aload_n d147_8 rfl, gr_LdA 0 9⟩,
  List.forall_mem_cons.mpr ⟨⟨sim_getI d147_9 gf165, gr_GetI (fun k => k = 11) 15 12⟩,
  List.forall_mem_cons.mpr ⟨⟨sim_icmp_ge d147_12 (by decide), gr_Ic (fun x y => y ≤ x) 44 15⟩,
  List.forall_mem_cons.mpr ⟨⟨sim_aload_n d147_15 rfl, gr_LdA 0 16⟩,
  List.forall_mem_cons.mpr ⟨⟨sim_getI d147_16 gf164, gr_GetI (fun k => k = 11) 13 19⟩,
  List.forall_mem_cons.mpr ⟨⟨sim_iconst d147_19 (by decide), gr_Push (.int 3) 20⟩,
  List.forall_mem_cons.mpr ⟨⟨sim_icmp_ne d147_20 (by decide), gr_Ic (fun x y => ¬ x = y) 44 23⟩,
  List.forall_mem_cons.mpr ⟨⟨sim_bipush d147_23 (by decide), gr_Push (.int 10) 25⟩,
  List.forall_mem_cons.mpr ⟨⟨sim_iload_n d147_25 rfl, gr_LdI 1 26⟩,
  List.forall_mem_cons.mpr ⟨⟨sim_imul d147_26, gr_II (fun x y => x * y) 27⟩,
  List.forall_mem_cons.mpr ⟨⟨sim_aload_n d147_27 rfl, gr_LdA 0 28⟩,
  List.forall_mem_cons.mpr ⟨⟨sim_getF d147_28 gf160, gr_GetF (fun k => k = 11) 8 31⟩,
  List.forall_mem_cons.mpr ⟨⟨sim_iload_n d147_31 rfl, gr_LdI 2 32⟩,
  List.forall_mem_cons.mpr ⟨⟨sim_iaload d147_32, gr_ALdI 33⟩,
  List.forall_mem_cons.mpr ⟨⟨sim_iadd d147_33, gr_II (fun x y => x + y) 34⟩,
  List.forall_mem_cons.mpr ⟨⟨sim_bipush d147_34 (by decide), gr_Push (.int 48) 36⟩,
  List.forall_mem_cons.mpr ⟨⟨sim_isub d147_36, gr_II (fun x y => x - y) 37⟩,
  List.forall_mem_cons.mpr ⟨⟨sim_istore_n d147_37 rfl (by decide), gr_StI 1 38⟩,
  List.forall_mem_cons.mpr ⟨⟨sim_iinc d147_38 (by decide) (by decide), gr_Inc 2 1 41⟩,
  List.forall_mem_cons.mpr ⟨⟨sim_goto d147_41 (by decide), gr_Go 7⟩,
  List.forall_mem_cons.mpr ⟨⟨sim_iload_n d147_44 rfl, gr_LdI 1 45⟩,
  List.forall_mem_cons.mpr ⟨⟨sim_ireturn d147_45 rfl, gr_RetI⟩, fun _ h => absurd h List.not_mem_nil⟩⟩⟩⟩⟩⟩⟩⟩⟩⟩⟩⟩⟩⟩⟩⟩⟩⟩⟩⟩⟩⟩⟩⟩⟩⟩⟩⟩
noncomputable def pg147 : List (Nat × aP) := pg147_0
theorem ok147 : ∀ q ∈ pg147, Sim mT mt147 q.1 q.2 ∧ Grow q.2 := ok147_0
theorem d148_0 : decode mt148.2.1 0 = .ok (.aload_n 0, 1) := by decide +kernel
theorem d148_1 : decode mt148.2.1 1 = .ok (.getfield 132, 3) := by decide +kernel
theorem d148_4 : decode mt148.2.1 4 = .ok (.ifCond .le 5, 3) := by decide +kernel
theorem d148_7 : decode mt148.2.1 7 = .ok (.iconst 0, 1) := by decide +kernel
theorem d148_8 : decode mt148.2.1 8 = .ok (.ireturn, 1) := by decide +kernel
theorem d148_9 : decode mt148.2.1 9 = .ok (.aload_n 0, 1) := by decide +kernel
theorem d148_10 : decode mt148.2.1 10 = .ok (.invokevirtual 145, 3) := by decide +kernel
theorem d148_13 : decode mt148.2.1 13 = .ok (.istore_n 3, 1) := by decide +kernel
theorem d148_14 : decode mt148.2.1 14 = .ok (.aload_n 0, 1) := by decide +kernel
theorem d148_15 : decode mt148.2.1 15 = .ok (.getfield 120, 3) := by decide +kernel
theorem d148_18 : decode mt148.2.1 18 = .ok (.iconst 3, 1) := by decide +kernel
theorem d148_19 : decode mt148.2.1 19 = .ok (.if_icmp .ne 20, 3) := by decide +kernel
theorem d148_22 : decode mt148.2.1 22 = .ok (.iload_n 3, 1) := by decide +kernel
theorem d148_23 : decode mt148.2.1 23 = .ok (.i2l, 1) := by decide +kernel
theorem d148_24 : decode mt148.2.1 24 = .ok (.iload_n 1, 1) := by decide +kernel
theorem d148_25 : decode mt148.2.1 25 = .ok (.i2l, 1) := by decide +kernel
theorem d148_26 : decode mt148.2.1 26 = .ok (.iload_n 2, 1) := by decide +kernel
theorem d148_27 : decode mt148.2.1 27 = .ok (.i2l, 1) := by decide +kernel
theorem d148_28 : decode mt148.2.1 28 = .ok (.invokestatic 84, 3) := by decide +kernel
theorem d148_31 : decode mt148.2.1 31 = .ok (.ifCond .ne 8, 3) := by decide +kernel
theorem d148_34 : decode mt148.2.1 34 = .ok (.aload_n 0, 1) := by decide +kernel
theorem d148_35 : decode mt148.2.1 35 = .ok (.iconst 2, 1) := by decide +kernel
theorem d148_36 : decode mt148.2.1 36 = .ok (.invokevirtual 141, 3) := by decide +kernel
theorem d148_39 : decode mt148.2.1 39 = .ok (.aload_n 0, 1) := by decide +kernel
theorem d148_40 : decode mt148.2.1 40 = .ok (.aload_n 0, 1) := by decide +kernel
theorem d148_41 : decode mt148.2.1 41 = .ok (.getfield 120, 3) := by decide +kernel
theorem d148_44 : decode mt148.2.1 44 = .ok (.iconst 3, 1) := by decide +kernel
theorem d148_45 : decode mt148.2.1 45 = .ok (.if_icmp .ne 7, 3) := by decide +kernel
theorem d148_48 : decode mt148.2.1 48 = .ok (.iconst 1, 1) := by decide +kernel
theorem d148_49 : decode mt148.2.1 49 = .ok (.goto 4, 3) := by decide +kernel
theorem d148_52 : decode mt148.2.1 52 = .ok (.iconst 0, 1) := by decide +kernel
theorem d148_53 : decode mt148.2.1 53 = .ok (.invokevirtual 149, 3) := by decide +kernel
theorem d148_56 : decode mt148.2.1 56 = .ok (.iload_n 3, 1) := by decide +kernel
theorem d148_57 : decode mt148.2.1 57 = .ok (.ireturn, 1) := by decide +kernel
noncomputable def pg148_0 : List (Nat × aP) := [(0, oLdA 0 1),
  (1, oGetI (fun k => k = 11) 16 4),
  (4, oIf (fun x => x ≤ 0) 9 7),
  (7, oPush (.int 0) 8),
  (8, oRetI),
  (9, oLdA 0 10),
  (10, oCalV (fun k => if k = 11 then some 147 else none) 0 13),
  (13, oStI 3 14),
  (14, oLdA 0 15),
  (15, oGetI (fun k => k = 11) 13 18),
  (18, oPush (.int 3) 19),
  (19, oIc (fun x y => ¬ x = y) 39 22),
  (22, oLdI 3 23),
  (23, oIL (fun x => x.toInt64) 24),
  (24, oLdI 1 25),
  (25, oIL (fun x => x.toInt64) 26),
  (26, oLdI 2 27),
  (27, oIL (fun x => x.toInt64) 28),
  (28, oCall 131 3 31),
  (31, oIf (fun x => ¬ x = 0) 39 34),
  (34, oLdA 0 35),
  (35, oPush (.int 2) 36),
  (36, oCalV (fun k => if k = 11 then some 144 else none) 1 39),
  (39, oLdA 0 40),
  (40, oLdA 0 41),
  (41, oGetI (fun k => k = 11) 13 44),
  (44, oPush (.int 3) 45),
  (45, oIc (fun x y => ¬ x = y) 52 48),
  (48, oPush (.int 1) 49),
  (49, oGo 53),
  (52, oPush (.int 0) 53),
  (53, oCalV (fun k => if k = 11 then some 145 else none) 1 56),
  (56, oLdI 3 57),
  (57, oRetI)]
theorem ok148_0 : ∀ q ∈ pg148_0, Sim mT mt148 q.1 q.2 ∧ Grow q.2 :=
  List.forall_mem_cons.mpr ⟨⟨sim_aload_n d148_0 rfl, gr_LdA 0 1⟩,
  List.forall_mem_cons.mpr ⟨⟨sim_getI d148_1 gf166, gr_GetI (fun k => k = 11) 16 4⟩,
  List.forall_mem_cons.mpr ⟨⟨sim_if_le d148_4 (by decide), gr_If (fun x => x ≤ 0) 9 7⟩,
  List.forall_mem_cons.mpr ⟨⟨sim_iconst d148_7 (by decide), gr_Push (.int 0) 8⟩,
  List.forall_mem_cons.mpr ⟨⟨sim_ireturn d148_8 rfl, gr_RetI⟩,
  List.forall_mem_cons.mpr ⟨⟨sim_aload_n d148_9 rfl, gr_LdA 0 10⟩,
  List.forall_mem_cons.mpr ⟨⟨sim_virtual d148_10 vk103, gr_CalV (fun k => if k = 11 then some 147 else none) 0 13⟩,
  List.forall_mem_cons.mpr ⟨⟨sim_istore_n d148_13 rfl (by decide), gr_StI 3 14⟩,
  List.forall_mem_cons.mpr ⟨⟨sim_aload_n d148_14 rfl, gr_LdA 0 15⟩,
  List.forall_mem_cons.mpr ⟨⟨sim_getI d148_15 gf164, gr_GetI (fun k => k = 11) 13 18⟩,
  List.forall_mem_cons.mpr ⟨⟨sim_iconst d148_18 (by decide), gr_Push (.int 3) 19⟩,
  List.forall_mem_cons.mpr ⟨⟨sim_icmp_ne d148_19 (by decide), gr_Ic (fun x y => ¬ x = y) 39 22⟩,
  List.forall_mem_cons.mpr ⟨⟨sim_iload_n d148_22 rfl, gr_LdI 3 23⟩,
  List.forall_mem_cons.mpr ⟨⟨sim_i2l d148_23, gr_IL (fun x => x.toInt64) 24⟩,
  List.forall_mem_cons.mpr ⟨⟨sim_iload_n d148_24 rfl, gr_LdI 1 25⟩,
  List.forall_mem_cons.mpr ⟨⟨sim_i2l d148_25, gr_IL (fun x => x.toInt64) 26⟩,
  List.forall_mem_cons.mpr ⟨⟨sim_iload_n d148_26 rfl, gr_LdI 2 27⟩,
  List.forall_mem_cons.mpr ⟨⟨sim_i2l d148_27, gr_IL (fun x => x.toInt64) 28⟩,
  List.forall_mem_cons.mpr ⟨⟨sim_static (y := 131) d148_28 (Or.inl kw1038) kw1039 mo131, gr_Call 131 3 31⟩,
  List.forall_mem_cons.mpr ⟨⟨sim_if_ne d148_31 (by decide), gr_If (fun x => ¬ x = 0) 39 34⟩,
  List.forall_mem_cons.mpr ⟨⟨sim_aload_n d148_34 rfl, gr_LdA 0 35⟩,
  List.forall_mem_cons.mpr ⟨⟨sim_iconst d148_35 (by decide), gr_Push (.int 2) 36⟩,
  List.forall_mem_cons.mpr ⟨⟨sim_virtual d148_36 vk102, gr_CalV (fun k => if k = 11 then some 144 else none) 1 39⟩,
  List.forall_mem_cons.mpr ⟨⟨sim_aload_n d148_39 rfl, gr_LdA 0 40⟩,
  List.forall_mem_cons.mpr ⟨⟨sim_aload_n d148_40 rfl, gr_LdA 0 41⟩,
  List.forall_mem_cons.mpr ⟨⟨sim_getI d148_41 gf164, gr_GetI (fun k => k = 11) 13 44⟩,
  List.forall_mem_cons.mpr ⟨⟨sim_iconst d148_44 (by decide), gr_Push (.int 3) 45⟩,
  List.forall_mem_cons.mpr ⟨⟨sim_icmp_ne d148_45 (by decide), gr_Ic (fun x y => ¬ x = y) 52 48⟩,
  List.forall_mem_cons.mpr ⟨⟨sim_iconst d148_48 (by decide), gr_Push (.int 1) 49⟩,
  List.forall_mem_cons.mpr ⟨⟨sim_goto d148_49 (by decide), gr_Go 53⟩,
  List.forall_mem_cons.mpr ⟨⟨sim_iconst d148_52 (by decide), gr_Push (.int 0) 53⟩,
  List.forall_mem_cons.mpr ⟨⟨sim_virtual d148_53 vk104, gr_CalV (fun k => if k = 11 then some 145 else none) 1 56⟩,
  List.forall_mem_cons.mpr ⟨⟨sim_iload_n d148_56 rfl, gr_LdI 3 57⟩,
  List.forall_mem_cons.mpr ⟨⟨sim_ireturn d148_57 rfl, gr_RetI⟩, fun _ h => absurd h List.not_mem_nil⟩⟩⟩⟩⟩⟩⟩⟩⟩⟩⟩⟩⟩⟩⟩⟩⟩⟩⟩⟩⟩⟩⟩⟩⟩⟩⟩⟩⟩⟩⟩⟩⟩⟩
noncomputable def pg148 : List (Nat × aP) := pg148_0
theorem ok148 : ∀ q ∈ pg148, Sim mT mt148 q.1 q.2 ∧ Grow q.2 := ok148_0
theorem d149_0 : decode mt149.2.1 0 = .ok (.aload_n 0, 1) := by decide +kernel
theorem d149_1 : decode mt149.2.1 1 = .ok (.getfield 132, 3) := by decide +kernel
theorem d149_4 : decode mt149.2.1 4 = .ok (.ifCond .ne 20, 3) := by decide +kernel
theorem d149_7 : decode mt149.2.1 7 = .ok (.aload_n 0, 1) := by decide +kernel
theorem d149_8 : decode mt149.2.1 8 = .ok (.aload_n 0, 1) := by decide +kernel
theorem d149_9 : decode mt149.2.1 9 = .ok (.getfield 120, 3) := by decide +kernel
theorem d149_12 : decode mt149.2.1 12 = .ok (.iconst 4, 1) := by decide +kernel
theorem d149_13 : decode mt149.2.1 13 = .ok (.if_icmp .ne 7, 3) := by decide +kernel
theorem d149_16 : decode mt149.2.1 16 = .ok (.iconst 1, 1) := by decide +kernel
theorem d149_17 : decode mt149.2.1 17 = .ok (.goto 4, 3) := by decide +kernel
theorem d149_20 : decode mt149.2.1 20 = .ok (.iconst 0, 1) := by decide +kernel
theorem d149_21 : decode mt149.2.1 21 = .ok (.invokevirtual 149, 3) := by decide +kernel
theorem d149_24 : decode mt149.2.1 24 = .ok (.return_, 1) := by decide +kernel
noncomputable def pg149_0 : List (Nat × aP) := [(0, oLdA 0 1),
  (1, oGetI (fun k => k = 11) 16 4),
  (4, oIf (fun x => ¬ x = 0) 24 7),
  (7, oLdA 0 8),
  (8, oLdA 0 9),
  (9, oGetI (fun k => k = 11) 13 12),
  (12, oPush (.int 4) 13),
  (13, oIc (fun x y => ¬ x = y) 20 16),
  (16, oPush (.int 1) 17),
  (17, oGo 21),
  (20, oPush (.int 0) 21),
  (21, oCalV (fun k => if k = 11 then some 145 else none) 1 24),
  (24, oRetV)]
theorem ok149_0 : ∀ q ∈ pg149_0, Sim mT mt149 q.1 q.2 ∧ Grow q.2 :=
  List.forall_mem_cons.mpr ⟨⟨sim_aload_n d149_0 rfl, gr_LdA 0 1⟩,
  List.forall_mem_cons.mpr ⟨⟨sim_getI d149_1 gf166, gr_GetI (fun k => k = 11) 16 4⟩,
  List.forall_mem_cons.mpr ⟨⟨sim_if_ne d149_4 (by decide), gr_If (fun x => ¬ x = 0) 24 7⟩,
  List.forall_mem_cons.mpr ⟨⟨sim_aload_n d149_7 rfl, gr_LdA 0 8⟩,
  List.forall_mem_cons.mpr ⟨⟨sim_aload_n d149_8 rfl, gr_LdA 0 9⟩,
  List.forall_mem_cons.mpr ⟨⟨sim_getI d149_9 gf164, gr_GetI (fun k => k = 11) 13 12⟩,
  List.forall_mem_cons.mpr ⟨⟨sim_iconst d149_12 (by decide), gr_Push (.int 4) 13⟩,
  List.forall_mem_cons.mpr ⟨⟨sim_icmp_ne d149_13 (by decide), gr_Ic (fun x y => ¬ x = y) 20 16⟩,
  List.forall_mem_cons.mpr ⟨⟨sim_iconst d149_16 (by decide), gr_Push (.int 1) 17⟩,
  List.forall_mem_cons.mpr ⟨⟨sim_goto d149_17 (by decide), gr_Go 21⟩,
  List.forall_mem_cons.mpr ⟨⟨sim_iconst d149_20 (by decide), gr_Push (.int 0) 21⟩,
  List.forall_mem_cons.mpr ⟨⟨sim_virtual d149_21 vk104, gr_CalV (fun k => if k = 11 then some 145 else none) 1 24⟩,
  List.forall_mem_cons.mpr ⟨⟨sim_return d149_24 rfl, gr_RetV⟩, fun _ h => absurd h List.not_mem_nil⟩⟩⟩⟩⟩⟩⟩⟩⟩⟩⟩⟩⟩
noncomputable def pg149 : List (Nat × aP) := pg149_0
theorem ok149 : ∀ q ∈ pg149, Sim mT mt149 q.1 q.2 ∧ Grow q.2 := ok149_0
theorem d150_0 : decode mt150.2.1 0 = .ok (.aload_n 0, 1) := by decide +kernel
theorem d150_1 : decode mt150.2.1 1 = .ok (.getfield 22, 3) := by decide +kernel
theorem d150_4 : decode mt150.2.1 4 = .ok (.iload_n 1, 1) := by decide +kernel
theorem d150_5 : decode mt150.2.1 5 = .ok (.iaload, 1) := by decide +kernel
theorem d150_6 : decode mt150.2.1 6 = .ok (.iload_n 2, 1) := by decide +kernel
theorem d150_7 : decode mt150.2.1 7 = .ok (.if_icmp .ne 8, 3) := by decide +kernel
theorem d150_10 : decode mt150.2.1 10 = .ok (.aload_n 0, 1) := by decide +kernel
theorem d150_11 : decode mt150.2.1 11 = .ok (.iconst 3, 1) := by decide +kernel
theorem d150_12 : decode mt150.2.1 12 = .ok (.invokevirtual 141, 3) := by decide +kernel
theorem d150_15 : decode mt150.2.1 15 = .ok (.aload_n 0, 1) := by decide +kernel
theorem d150_16 : decode mt150.2.1 16 = .ok (.iconst 1, 1) := by decide +kernel
theorem d150_17 : decode mt150.2.1 17 = .ok (.invokevirtual 149, 3) := by decide +kernel
theorem d150_20 : decode mt150.2.1 20 = .ok (.return_, 1) := by decide +kernel
noncomputable def pg150_0 : List (Nat × aP) := [(0, oLdA 0 1),
  (1, oGetF (fun k => k = 11) 6 4),
  (4, oLdI 1 5),
  (5, oALdI 6),
  (6, oLdI 2 7),
  (7, oIc (fun x y => ¬ x = y) 15 10),
  (10, oLdA 0 11),
  (11, oPush (.int 3) 12),
  (12, oCalV (fun k => if k = 11 then some 144 else none) 1 15),
  (15, oLdA 0 16),
  (16, oPush (.int 1) 17),
  (17, oCalV (fun k => if k = 11 then some 145 else none) 1 20),
  (20, oRetV)]
theorem ok150_0 : ∀ q ∈ pg150_0, Sim mT mt150 q.1 q.2 ∧ Grow q.2 :=
  List.forall_mem_cons.mpr ⟨⟨sim_aload_n d150_0 rfl, gr_LdA 0 1⟩,
  List.forall_mem_cons.mpr ⟨⟨sim_getF d150_1 gf168, gr_GetF (fun k => k = 11) 6 4⟩,
  List.forall_mem_cons.mpr ⟨⟨sim_iload_n d150_4 rfl, gr_LdI 1 5⟩,
  List.forall_mem_cons.mpr ⟨⟨sim_iaload d150_5, gr_ALdI 6⟩,
  List.forall_mem_cons.mpr ⟨⟨sim_iload_n d150_6 rfl, gr_LdI 2 7⟩,
  List.forall_mem_cons.mpr ⟨⟨sim_icmp_ne d150_7 (by decide), gr_Ic (fun x y => ¬ x = y) 15 10⟩,
  List.forall_mem_cons.mpr ⟨⟨sim_aload_n d150_10 rfl, gr_LdA 0 11⟩,
  List.forall_mem_cons.mpr ⟨⟨sim_iconst d150_11 (by decide), gr_Push (.int 3) 12⟩,
  List.forall_mem_cons.mpr ⟨⟨sim_virtual d150_12 vk102, gr_CalV (fun k => if k = 11 then some 144 else none) 1 15⟩,
  List.forall_mem_cons.mpr ⟨⟨sim_aload_n d150_15 rfl, gr_LdA 0 16⟩,
  List.forall_mem_cons.mpr ⟨⟨sim_iconst d150_16 (by decide), gr_Push (.int 1) 17⟩,
  List.forall_mem_cons.mpr ⟨⟨sim_virtual d150_17 vk104, gr_CalV (fun k => if k = 11 then some 145 else none) 1 20⟩,
  List.forall_mem_cons.mpr ⟨⟨sim_return d150_20 rfl, gr_RetV⟩, fun _ h => absurd h List.not_mem_nil⟩⟩⟩⟩⟩⟩⟩⟩⟩⟩⟩⟩⟩
noncomputable def pg150 : List (Nat × aP) := pg150_0
theorem ok150 : ∀ q ∈ pg150, Sim mT mt150 q.1 q.2 ∧ Grow q.2 := ok150_0
theorem d151_0 : decode mt151.2.1 0 = .ok (.aload_n 0, 1) := by decide +kernel
theorem d151_1 : decode mt151.2.1 1 = .ok (.getfield 129, 3) := by decide +kernel
theorem d151_4 : decode mt151.2.1 4 = .ok (.aload_n 0, 1) := by decide +kernel
theorem d151_5 : decode mt151.2.1 5 = .ok (.getfield 117, 3) := by decide +kernel
theorem d151_8 : decode mt151.2.1 8 = .ok (.isub, 1) := by decide +kernel
theorem d151_9 : decode mt151.2.1 9 = .ok (.istore_n 1, 1) := by decide +kernel
theorem d151_10 : decode mt151.2.1 10 = .ok (.aload_n 0, 1) := by decide +kernel
theorem d151_11 : decode mt151.2.1 11 = .ok (.getfield 120, 3) := by decide +kernel
theorem d151_14 : decode mt151.2.1 14 = .ok (.iconst 2, 1) := by decide +kernel
theorem d151_15 : decode mt151.2.1 15 = .ok (.if_icmp .ne 35, 3) := by decide +kernel
theorem d151_18 : decode mt151.2.1 18 = .ok (.aload_n 0, 1) := by decide +kernel
theorem d151_19 : decode mt151.2.1 19 = .ok (.getfield 22, 3) := by decide +kernel
theorem d151_22 : decode mt151.2.1 22 = .ok (.iconst 1, 1) := by decide +kernel
theorem d151_23 : decode mt151.2.1 23 = .ok (.iaload, 1) := by decide +kernel
theorem d151_24 : decode mt151.2.1 24 = .ok (.ifCond .ne 12, 3) := by decide +kernel
theorem d151_27 : decode mt151.2.1 27 = .ok (.iload_n 1, 1) := by decide +kernel
theorem d151_28 : decode mt151.2.1 28 = .ok (.bipush 7, 2) := by decide +kernel
theorem d151_30 : decode mt151.2.1 30 = .ok (.if_icmp .gt 20, 3) := by decide +kernel
theorem d151_33 : decode mt151.2.1 33 = .ok (.goto 13, 3) := by decide +kernel
theorem d151_36 : decode mt151.2.1 36 = .ok (.iload_n 1, 1) := by decide +kernel
theorem d151_37 : decode mt151.2.1 37 = .ok (.aload_n 0, 1) := by decide +kernel
theorem d151_38 : decode mt151.2.1 38 = .ok (.getfield 22, 3) := by decide +kernel
theorem d151_41 : decode mt151.2.1 41 = .ok (.iconst 0, 1) := by decide +kernel
theorem d151_42 : decode mt151.2.1 42 = .ok (.iaload, 1) := by decide +kernel
theorem d151_43 : decode mt151.2.1 43 = .ok (.if_icmp .ne 7, 3) := by decide +kernel
theorem d151_46 : decode mt151.2.1 46 = .ok (.iconst 1, 1) := by decide +kernel
theorem d151_47 : decode mt151.2.1 47 = .ok (.goto 4, 3) := by decide +kernel
theorem d151_50 : decode mt151.2.1 50 = .ok (.iconst 0, 1) := by decide +kernel
theorem d151_51 : decode mt151.2.1 51 = .ok (.istore_n 2, 1) := by decide +kernel
theorem d151_52 : decode mt151.2.1 52 = .ok (.aload_n 0, 1) := by decide +kernel
theorem d151_53 : decode mt151.2.1 53 = .ok (.getfield 117, 3) := by decide +kernel
theorem d151_56 : decode mt151.2.1 56 = .ok (.istore_n 3, 1) := by decide +kernel
theorem d151_57 : decode mt151.2.1 57 = .ok (.iload_n 3, 1) := by decide +kernel
theorem d151_58 : decode mt151.2.1 58 = .ok (.aload_n 0, 1) := by decide +kernel
theorem d151_59 : decode mt151.2.1 59 = .ok (.getfield 129, 3) := by decide +kernel
theorem d151_62 : decode mt151.2.1 62 = .ok (.if_icmp .ge 49, 3) := by decide +kernel
theorem d151_65 : decode mt151.2.1 65 = .ok (.iload_n 2, 1) := by decide +kernel
theorem d151_66 : decode mt151.2.1 66 = .ok (.ifCond .eq 45, 3) := by decide +kernel
theorem d151_69 : decode mt151.2.1 69 = .ok (.aload_n 0, 1) := by decide +kernel
theorem d151_70 : decode mt151.2.1 70 = .ok (.getfield 25, 3) := by decide +kernel
theorem d151_73 : decode mt151.2.1 73 = .ok (.iload_n 3, 1) := by decide +kernel
theorem d151_74 : decode mt151.2.1 74 = .ok (.iaload, 1) := by decide +kernel
theorem d151_75 : decode mt151.2.1 75 = .ok (.bipush 119, 2) := by decide +kernel
theorem d151_77 : decode mt151.2.1 77 = .ok (.if_icmp .eq 22, 3) := by decide +kernel
theorem d151_80 : decode mt151.2.1 80 = .ok (.aload_n 0, 1) := by decide +kernel
theorem d151_81 : decode mt151.2.1 81 = .ok (.getfield 25, 3) := by decide +kernel
theorem d151_84 : decode mt151.2.1 84 = .ok (.iload_n 3, 1) := by decide +kernel
theorem d151_85 : decode mt151.2.1 85 = .ok (.iaload, 1) := by decide +kernel
theorem d151_86 : decode mt151.2.1 86 = .ok (.i2l, 1) := by decide +kernel
theorem d151_87 : decode mt151.2.1 87 = .ok (.ldc2_w 153, 3) := by decide +kernel
theorem d151_90 : decode mt151.2.1 90 = .ok (.ldc2_w 155, 3) := by decide +kernel
theorem d151_93 : decode mt151.2.1 93 = .ok (.invokestatic 84, 3) := by decide +kernel
theorem d151_96 : decode mt151.2.1 96 = .ok (.ifCond .eq 7, 3) := by decide +kernel
theorem d151_99 : decode mt151.2.1 99 = .ok (.iconst 1, 1) := by decide +kernel
theorem d151_100 : decode mt151.2.1 100 = .ok (.goto 4, 3) := by decide +kernel
theorem d151_103 : decode mt151.2.1 103 = .ok (.iconst 0, 1) := by decide +kernel
theorem d151_104 : decode mt151.2.1 104 = .ok (.istore_n 2, 1) := by decide +kernel
theorem d151_105 : decode mt151.2.1 105 = .ok (.iinc 3 1, 3) := by decide +kernel
theorem d151_108 : decode mt151.2.1 108 = .ok (.goto (-51), 3) := by decide +kernel
theorem d151_111 : decode mt151.2.1 111 = .ok (.iload_n 2, 1) := by decide +kernel
theorem d151_112 : decode mt151.2.1 112 = .ok (.ireturn, 1) := by decide +kernel
noncomputable def pg151_0 : List (Nat × aP) := [(0, oLdA 0 1),
  (1, oGetI (fun k => k = 11) 15 4),
  (4, oLdA 0 5),
  (5, oGetI (fun k => k = 11) 14 8),
  (8, oII (fun x y => x - y) 9),
  (9, oStI 1 10),
  (10, oLdA 0 11),
  (11, oGetI (fun k => k = 11) 13 14),
  (14, oPush (.int 2) 15),
  (15, oIc (fun x y => ¬ x = y) 50 18),
  (18, oLdA 0 19),
  (19, oGetF (fun k => k = 11) 6 22),
  (22, oPush (.int 1) 23),
  (23, oALdI 24),
  (24, oIf (fun x => ¬ x = 0) 36 27),
  (27, oLdI 1 28),
  (28, oPush (.int 7) 30),
  (30, oIc (fun x y => y < x) 50 33),
  (33, oGo 46),
  (36, oLdI 1 37),
  (37, oLdA 0 38),
  (38, oGetF (fun k => k = 11) 6 41),
  (41, oPush (.int 0) 42),
  (42, oALdI 43),
  (43, oIc (fun x y => ¬ x = y) 50 46),
  (46, oPush (.int 1) 47),
  (47, oGo 51),
  (50, oPush (.int 0) 51),
  (51, oStI 2 52),
  (52, oLdA 0 53),
  (53, oGetI (fun k => k = 11) 14 56),
  (56, oStI 3 57),
  (57, oLdI 3 58),
  (58, oLdA 0 59),
  (59, oGetI (fun k => k = 11) 15 62),
  (62, oIc (fun x y => y ≤ x) 111 65),
  (65, oLdI 2 66),
  (66, oIf (fun x => x = 0) 111 69),
  (69, oLdA 0 70),
  (70, oGetF (fun k => k = 11) 8 73)]
theorem ok151_0 : ∀ q ∈ pg151_0, Sim mT mt151 q.1 q.2 ∧ Grow q.2 :=
  List.forall_mem_cons.mpr ⟨⟨sim_aload_n d151_0 rfl, gr_LdA 0 1⟩,
  List.forall_mem_cons.mpr ⟨⟨sim_getI d151_1 gf165, gr_GetI (fun k => k = 11) 15 4⟩,
  List.forall_mem_cons.mpr ⟨⟨sim_aload_n d151_4 rfl, gr_LdA 0 5⟩,
  List.forall_mem_cons.mpr ⟨⟨sim_getI d151_5 gf163, gr_GetI (fun k => k = 11) 14 8⟩,
  List.forall_mem_cons.mpr ⟨⟨sim_isub d151_8, gr_II (fun x y => x - y) 9⟩,
  List.forall_mem_cons.mpr ⟨⟨sim_istore_n d151_9 rfl (by decide), gr_StI 1 10⟩,
  List.forall_mem_cons.mpr ⟨⟨sim_aload_n d151_10 rfl, gr_LdA 0 11⟩,
  List.forall_mem_cons.mpr ⟨⟨sim_getI d151_11 gf164, gr_GetI (fun k => k = 11) 13 14⟩,
  List.forall_mem_cons.mpr ⟨⟨sim_iconst d151_14 (by decide), gr_Push (.int 2) 15⟩,
  List.forall_mem_cons.mpr ⟨⟨sim_icmp_ne d151_15 (by decide), gr_Ic (fun x y => ¬ x = y) 50 18⟩,
  List.forall_mem_cons.mpr ⟨⟨sim_aload_n d151_18 rfl, gr_LdA 0 19⟩,
  List.forall_mem_cons.mpr ⟨⟨sim_getF d151_19 gf168, gr_GetF (fun k => k = 11) 6 22⟩,
  List.forall_mem_cons.mpr ⟨⟨sim_iconst d151_22 (by decide), gr_Push (.int 1) 23⟩,
  List.forall_mem_cons.mpr ⟨⟨sim_iaload d151_23, gr_ALdI 24⟩,
  List.forall_mem_cons.mpr ⟨⟨sim_if_ne d151_24 (by decide), gr_If (fun x => ¬ x = 0) 36 27⟩,
  List.forall_mem_cons.mpr ⟨⟨sim_iload_n d151_27 rfl, gr_LdI 1 28⟩,
  List.forall_mem_cons.mpr ⟨⟨sim_bipush d151_28 (by decide), gr_Push (.int 7) 30⟩,
  List.forall_mem_cons.mpr ⟨⟨sim_icmp_gt d151_30 (by decide), gr_Ic (fun x y => y < x) 50 33⟩,
  List.forall_mem_cons.mpr ⟨⟨sim_goto d151_33 (by decide), gr_Go 46⟩,
  List.forall_mem_cons.mpr ⟨⟨sim_iload_n d151_36 rfl, gr_LdI 1 37⟩,
  List.forall_mem_cons.mpr ⟨⟨sim_aload_n d151_37 rfl, gr_LdA 0 38⟩,
  List.forall_mem_cons.mpr ⟨⟨sim_getF d151_38 gf168, gr_GetF (fun k => k = 11) 6 41⟩,
  List.forall_mem_cons.mpr ⟨⟨sim_iconst d151_41 (by decide), gr_Push (.int 0) 42⟩,
  List.forall_mem_cons.mpr ⟨⟨sim_iaload d151_42, gr_ALdI 43⟩,
  List.forall_mem_cons.mpr ⟨⟨sim_icmp_ne d151_43 (by decide), gr_Ic (fun x y => ¬ x = y) 50 46⟩,
  List.forall_mem_cons.mpr ⟨⟨sim_iconst d151_46 (by decide), gr_Push (.int 1) 47⟩,
  List.forall_mem_cons.mpr ⟨⟨sim_goto d151_47 (by decide), gr_Go 51⟩,
  List.forall_mem_cons.mpr ⟨⟨sim_iconst d151_50 (by decide), gr_Push (.int 0) 51⟩,
  List.forall_mem_cons.mpr ⟨⟨sim_istore_n d151_51 rfl (by decide), gr_StI 2 52⟩,
  List.forall_mem_cons.mpr ⟨⟨sim_aload_n d151_52 rfl, gr_LdA 0 53⟩,
  List.forall_mem_cons.mpr ⟨⟨sim_getI d151_53 gf163, gr_GetI (fun k => k = 11) 14 56⟩,
  List.forall_mem_cons.mpr ⟨⟨sim_istore_n d151_56 rfl (by decide), gr_StI 3 57⟩,
  List.forall_mem_cons.mpr ⟨⟨sim_iload_n d151_57 rfl, gr_LdI 3 58⟩,
  List.forall_mem_cons.mpr ⟨⟨sim_aload_n d151_58 rfl, gr_LdA 0 59⟩,
  List.forall_mem_cons.mpr ⟨⟨sim_getI d151_59 gf165, gr_GetI (fun k => k = 11) 15 62⟩,
  List.forall_mem_cons.mpr ⟨⟨sim_icmp_ge d151_62 (by decide), gr_Ic (fun x y => y ≤ x) 111 65⟩,
  List.forall_mem_cons.mpr ⟨⟨sim_iload_n d151_65 rfl, gr_LdI 2 66⟩,
  List.forall_mem_cons.mpr ⟨⟨sim_if_eq d151_66 (by decide), gr_If (fun x => x = 0) 111 69⟩,
  List.forall_mem_cons.mpr ⟨⟨sim_aload_n d151_69 rfl, gr_LdA 0 70⟩,
  List.forall_mem_cons.mpr ⟨⟨sim_getF d151_70 gf160, gr_GetF (fun k => k = 11) 8 73⟩, fun _ h => absurd h List.not_mem_nil⟩⟩⟩⟩⟩⟩⟩⟩⟩⟩⟩⟩⟩⟩⟩⟩⟩⟩⟩⟩⟩⟩⟩⟩⟩⟩⟩⟩⟩⟩⟩⟩⟩⟩⟩⟩⟩⟩⟩⟩
noncomputable def pg151_1 : List (Nat × aP) := [(73, oLdI 3 74),
  (74, oALdI 75),
  (75, oPush (.int 119) 77),
  (77, oIc (fun x y => x = y) 99 80),
  (80, oLdA 0 81),
  (81, oGetF (fun k => k = 11) 8 84),
  (84, oLdI 3 85),
  (85, oALdI 86),
  (86, oIL (fun x => x.toInt64) 87),
  (87, oPush (.long 97) 90),
  (90, oPush (.long 106) 93),
  (93, oCall 131 3 96),
  (96, oIf (fun x => x = 0) 103 99),
  (99, oPush (.int 1) 100),
  (100, oGo 104),
  (103, oPush (.int 0) 104),
  (104, oStI 2 105),
  (105, oInc 3 1 108),
  (108, oGo 57),
  (111, oLdI 2 112),
  (112, oRetN .boolean)]
theorem ok151_1 : ∀ q ∈ pg151_1, Sim mT mt151 q.1 q.2 ∧ Grow q.2 :=
  List.forall_mem_cons.mpr ⟨⟨sim_iload_n d151_73 rfl, gr_LdI 3 74⟩,
  List.forall_mem_cons.mpr ⟨⟨sim_iaload d151_74, gr_ALdI 75⟩,
  List.forall_mem_cons.mpr ⟨⟨sim_bipush d151_75 (by decide), gr_Push (.int 119) 77⟩,
  List.forall_mem_cons.mpr ⟨⟨sim_icmp_eq d151_77 (by decide), gr_Ic (fun x y => x = y) 99 80⟩,
  List.forall_mem_cons.mpr ⟨⟨sim_aload_n d151_80 rfl, gr_LdA 0 81⟩,
  List.forall_mem_cons.mpr ⟨⟨sim_getF d151_81 gf160, gr_GetF (fun k => k = 11) 8 84⟩,
  List.forall_mem_cons.mpr ⟨⟨sim_iload_n d151_84 rfl, gr_LdI 3 85⟩,
  List.forall_mem_cons.mpr ⟨⟨sim_iaload d151_85, gr_ALdI 86⟩,
  List.forall_mem_cons.mpr ⟨⟨sim_i2l d151_86, gr_IL (fun x => x.toInt64) 87⟩,
  List.forall_mem_cons.mpr ⟨⟨sim_ldc2 d151_87 kw1119, gr_Push (.long 97) 90⟩,
  List.forall_mem_cons.mpr ⟨⟨sim_ldc2 d151_90 kw1120, gr_Push (.long 106) 93⟩,
  List.forall_mem_cons.mpr ⟨⟨sim_static (y := 131) d151_93 (Or.inl kw1038) kw1039 mo131, gr_Call 131 3 96⟩,
  List.forall_mem_cons.mpr ⟨⟨sim_if_eq d151_96 (by decide), gr_If (fun x => x = 0) 103 99⟩,
  List.forall_mem_cons.mpr ⟨⟨sim_iconst d151_99 (by decide), gr_Push (.int 1) 100⟩,
  List.forall_mem_cons.mpr ⟨⟨sim_goto d151_100 (by decide), gr_Go 104⟩,
  List.forall_mem_cons.mpr ⟨⟨sim_iconst d151_103 (by decide), gr_Push (.int 0) 104⟩,
  List.forall_mem_cons.mpr ⟨⟨sim_istore_n d151_104 rfl (by decide), gr_StI 2 105⟩,
  List.forall_mem_cons.mpr ⟨⟨sim_iinc d151_105 (by decide) (by decide), gr_Inc 3 1 108⟩,
  List.forall_mem_cons.mpr ⟨⟨sim_goto d151_108 (by decide), gr_Go 57⟩,
  List.forall_mem_cons.mpr ⟨⟨sim_iload_n d151_111 rfl, gr_LdI 2 112⟩,
  List.forall_mem_cons.mpr ⟨⟨sim_nreturn d151_112 rfl (fun _ h => congrArg Value.int h), gr_RetN .boolean⟩, fun _ h => absurd h List.not_mem_nil⟩⟩⟩⟩⟩⟩⟩⟩⟩⟩⟩⟩⟩⟩⟩⟩⟩⟩⟩⟩⟩
noncomputable def pg151 : List (Nat × aP) := pg151_0 ++ (pg151_1)
theorem ok151 : ∀ q ∈ pg151, Sim mT mt151 q.1 q.2 ∧ Grow q.2 := List.forall_mem_append.mpr ⟨ok151_0, ok151_1⟩
theorem d152_0 : decode mt152.2.1 0 = .ok (.aload_n 0, 1) := by decide +kernel
theorem d152_1 : decode mt152.2.1 1 = .ok (.iconst 1, 1) := by decide +kernel
theorem d152_2 : decode mt152.2.1 2 = .ok (.bipush 6, 2) := by decide +kernel
theorem d152_4 : decode mt152.2.1 4 = .ok (.invokevirtual 157, 3) := by decide +kernel
theorem d152_7 : decode mt152.2.1 7 = .ok (.aload_n 0, 1) := by decide +kernel
theorem d152_8 : decode mt152.2.1 8 = .ok (.getfield 117, 3) := by decide +kernel
theorem d152_11 : decode mt152.2.1 11 = .ok (.istore_n 1, 1) := by decide +kernel
theorem d152_12 : decode mt152.2.1 12 = .ok (.aload_n 0, 1) := by decide +kernel
theorem d152_13 : decode mt152.2.1 13 = .ok (.getfield 129, 3) := by decide +kernel
theorem d152_16 : decode mt152.2.1 16 = .ok (.istore_n 2, 1) := by decide +kernel
theorem d152_17 : decode mt152.2.1 17 = .ok (.aload_n 0, 1) := by decide +kernel
theorem d152_18 : decode mt152.2.1 18 = .ok (.getfield 132, 3) := by decide +kernel
theorem d152_21 : decode mt152.2.1 21 = .ok (.ifCond .ne 11, 3) := by decide +kernel
theorem d152_24 : decode mt152.2.1 24 = .ok (.aload_n 0, 1) := by decide +kernel
theorem d152_25 : decode mt152.2.1 25 = .ok (.aload_n 0, 1) := by decide +kernel
theorem d152_26 : decode mt152.2.1 26 = .ok (.invokevirtual 161, 3) := by decide +kernel
theorem d152_29 : decode mt152.2.1 29 = .ok (.invokevirtual 149, 3) := by decide +kernel
theorem d152_32 : decode mt152.2.1 32 = .ok (.aload_n 0, 1) := by decide +kernel
theorem d152_33 : decode mt152.2.1 33 = .ok (.invokevirtual 165, 3) := by decide +kernel
theorem d152_36 : decode mt152.2.1 36 = .ok (.aload_n 0, 1) := by decide +kernel
theorem d152_37 : decode mt152.2.1 37 = .ok (.getfield 132, 3) := by decide +kernel
theorem d152_40 : decode mt152.2.1 40 = .ok (.ifCond .ne 79, 3) := by decide +kernel
theorem d152_43 : decode mt152.2.1 43 = .ok (.aload_n 0, 1) := by decide +kernel
theorem d152_44 : decode mt152.2.1 44 = .ok (.getfield 22, 3) := by decide +kernel
theorem d152_47 : decode mt152.2.1 47 = .ok (.iconst 0, 1) := by decide +kernel
theorem d152_48 : decode mt152.2.1 48 = .ok (.iload_n 2, 1) := by decide +kernel
theorem d152_49 : decode mt152.2.1 49 = .ok (.iload_n 1, 1) := by decide +kernel
theorem d152_50 : decode mt152.2.1 50 = .ok (.isub, 1) := by decide +kernel
theorem d152_51 : decode mt152.2.1 51 = .ok (.iastore, 1) := by decide +kernel
theorem d152_52 : decode mt152.2.1 52 = .ok (.iload_n 1, 1) := by decide +kernel
theorem d152_53 : decode mt152.2.1 53 = .ok (.istore_n 3, 1) := by decide +kernel
theorem d152_54 : decode mt152.2.1 54 = .ok (.iload_n 3, 1) := by decide +kernel
theorem d152_55 : decode mt152.2.1 55 = .ok (.iload_n 2, 1) := by decide +kernel
theorem d152_56 : decode mt152.2.1 56 = .ok (.if_icmp .ge 53, 3) := by decide +kernel
theorem d152_59 : decode mt152.2.1 59 = .ok (.aload_n 0, 1) := by decide +kernel
theorem d152_60 : decode mt152.2.1 60 = .ok (.getfield 22, 3) := by decide +kernel
theorem d152_63 : decode mt152.2.1 63 = .ok (.iconst 4, 1) := by decide +kernel
theorem d152_64 : decode mt152.2.1 64 = .ok (.bipush 7, 2) := by decide +kernel
theorem d152_66 : decode mt152.2.1 66 = .ok (.aload_n 0, 1) := by decide +kernel
theorem d152_67 : decode mt152.2.1 67 = .ok (.getfield 22, 3) := by decide +kernel
theorem d152_70 : decode mt152.2.1 70 = .ok (.iconst 1, 1) := by decide +kernel
theorem d152_71 : decode mt152.2.1 71 = .ok (.iaload, 1) := by decide +kernel
theorem d152_72 : decode mt152.2.1 72 = .ok (.imul, 1) := by decide +kernel
theorem d152_73 : decode mt152.2.1 73 = .ok (.iadd, 1) := by decide +kernel
theorem d152_74 : decode mt152.2.1 74 = .ok (.iload_n 3, 1) := by decide +kernel
theorem d152_75 : decode mt152.2.1 75 = .ok (.iadd, 1) := by decide +kernel
theorem d152_76 : decode mt152.2.1 76 = .ok (.iload_n 1, 1) := by decide +kernel
theorem d152_77 : decode mt152.2.1 77 = .ok (.isub, 1) := by decide +kernel
theorem d152_78 : decode mt152.2.1 78 = .ok (.aload_n 0, 1) := by decide +kernel
theorem d152_79 : decode mt152.2.1 79 = .ok (.getfield 25, 3) := by decide +kernel
theorem d152_82 : decode mt152.2.1 82 = .ok (.iload_n 3, 1) := by decide +kernel
theorem d152_83 : decode mt152.2.1 83 = .ok (.iaload, 1) := by decide +kernel
theorem d152_84 : decode mt152.2.1 84 = .ok (.bipush 119, 2) := by decide +kernel
theorem d152_86 : decode mt152.2.1 86 = .ok (.if_icmp .ne 7, 3) := by decide +kernel
theorem d152_89 : decode mt152.2.1 89 = .ok (.iconst (-1), 1) := by decide +kernel
theorem d152_90 : decode mt152.2.1 90 = .ok (.goto 12, 3) := by decide +kernel
theorem d152_93 : decode mt152.2.1 93 = .ok (.aload_n 0, 1) := by decide +kernel
theorem d152_94 : decode mt152.2.1 94 = .ok (.getfield 25, 3) := by decide +kernel
theorem d152_97 : decode mt152.2.1 97 = .ok (.iload_n 3, 1) := by decide +kernel
theorem d152_98 : decode mt152.2.1 98 = .ok (.iaload, 1) := by decide +kernel
theorem d152_99 : decode mt152.2.1 99 = .ok (.bipush 97, 2) := by decide +kernel
theorem d152_101 : decode mt152.2.1 101 = .ok (.isub, 1) := by decide +kernel
theorem d152_102 : decode mt152.2.1 102 = .ok (.iastore, 1) := by decide +kernel
theorem d152_103 : decode mt152.2.1 103 = .ok (.iinc 3 1, 3) := by decide +kernel
theorem d152_106 : decode mt152.2.1 106 = .ok (.goto (-52), 3) := by decide +kernel
theorem d152_109 : decode mt152.2.1 109 = .ok (.aload_n 0, 1) := by decide +kernel
theorem d152_110 : decode mt152.2.1 110 = .ok (.getfield 22, 3) := by decide +kernel
theorem d152_113 : decode mt152.2.1 113 = .ok (.iconst 1, 1) := by decide +kernel
theorem d152_114 : decode mt152.2.1 114 = .ok (.dup2, 1) := by decide +kernel
theorem d152_115 : decode mt152.2.1 115 = .ok (.iaload, 1) := by decide +kernel
theorem d152_116 : decode mt152.2.1 116 = .ok (.iconst 1, 1) := by decide +kernel
theorem d152_117 : decode mt152.2.1 117 = .ok (.iadd, 1) := by decide +kernel
theorem d152_118 : decode mt152.2.1 118 = .ok (.iastore, 1) := by decide +kernel
theorem d152_119 : decode mt152.2.1 119 = .ok (.return_, 1) := by decide +kernel
noncomputable def pg152_0 : List (Nat × aP) := [(0, oLdA 0 1),
  (1, oPush (.int 1) 2),
  (2, oPush (.int 6) 4),
  (4, oCalV (fun k => if k = 11 then some 150 else none) 2 7),
  (7, oLdA 0 8),
  (8, oGetI (fun k => k = 11) 14 11),
  (11, oStI 1 12),
  (12, oLdA 0 13),
  (13, oGetI (fun k => k = 11) 15 16),
  (16, oStI 2 17),
  (17, oLdA 0 18),
  (18, oGetI (fun k => k = 11) 16 21),
  (21, oIf (fun x => ¬ x = 0) 32 24),
  (24, oLdA 0 25),
  (25, oLdA 0 26),
  (26, oCalV (fun k => if k = 11 then some 151 else none) 0 29),
  (29, oCalV (fun k => if k = 11 then some 145 else none) 1 32),
  (32, oLdA 0 33),
  (33, oCalV (fun k => if k = 11 then some 149 else none) 0 36),
  (36, oLdA 0 37),
  (37, oGetI (fun k => k = 11) 16 40),
  (40, oIf (fun x => ¬ x = 0) 119 43),
  (43, oLdA 0 44),
  (44, oGetF (fun k => k = 11) 6 47),
  (47, oPush (.int 0) 48),
  (48, oLdI 2 49),
  (49, oLdI 1 50),
  (50, oII (fun x y => x - y) 51),
  (51, oAStI 52),
  (52, oLdI 1 53),
  (53, oStI 3 54),
  (54, oLdI 3 55),
  (55, oLdI 2 56),
  (56, oIc (fun x y => y ≤ x) 109 59),
  (59, oLdA 0 60),
  (60, oGetF (fun k => k = 11) 6 63),
  (63, oPush (.int 4) 64),
  (64, oPush (.int 7) 66),
  (66, oLdA 0 67),
  (67, oGetF (fun k => k = 11) 6 70)]
theorem ok152_0 : ∀ q ∈ pg152_0, Sim mT mt152 q.1 q.2 ∧ Grow q.2 :=
  List.forall_mem_cons.mpr ⟨⟨sim_aload_n d152_0 rfl, gr_LdA 0 1⟩,
  List.forall_mem_cons.mpr ⟨⟨sim_iconst d152_1 (by decide), gr_Push (.int 1) 2⟩,
  List.forall_mem_cons.mpr ⟨⟨sim_bipush d152_2 (by decide), gr_Push (.int 6) 4⟩,
  List.forall_mem_cons.mpr ⟨⟨sim_virtual d152_4 vk105, gr_CalV (fun k => if k = 11 then some 150 else none) 2 7⟩,
  List.forall_mem_cons.mpr ⟨⟨sim_aload_n d152_7 rfl, gr_LdA 0 8⟩,
  List.forall_mem_cons.mpr ⟨⟨sim_getI d152_8 gf163, gr_GetI (fun k => k = 11) 14 11⟩,
  List.forall_mem_cons.mpr ⟨⟨sim_istore_n d152_11 rfl (by decide), gr_StI 1 12⟩,
  List.forall_mem_cons.mpr ⟨⟨sim_aload_n d152_12 rfl, gr_LdA 0 13⟩,
  List.forall_mem_cons.mpr ⟨⟨sim_getI d152_13 gf165, gr_GetI (fun k => k = 11) 15 16⟩,
  List.forall_mem_cons.mpr ⟨⟨sim_istore_n d152_16 rfl (by decide), gr_StI 2 17⟩,
  List.forall_mem_cons.mpr ⟨⟨sim_aload_n d152_17 rfl, gr_LdA 0 18⟩,
  List.forall_mem_cons.mpr ⟨⟨sim_getI d152_18 gf166, gr_GetI (fun k => k = 11) 16 21⟩,
  List.forall_mem_cons.mpr ⟨⟨sim_if_ne d152_21 (by decide), gr_If (fun x => ¬ x = 0) 32 24⟩,
  List.forall_mem_cons.mpr ⟨⟨sim_aload_n d152_24 rfl, gr_LdA 0 25⟩,
  List.forall_mem_cons.mpr ⟨⟨sim_aload_n d152_25 rfl, gr_LdA 0 26⟩,
  List.forall_mem_cons.mpr ⟨⟨sim_virtual d152_26 vk106, gr_CalV (fun k => if k = 11 then some 151 else none) 0 29⟩,
  List.forall_mem_cons.mpr ⟨⟨sim_virtual d152_29 vk104, gr_CalV (fun k => if k = 11 then some 145 else none) 1 32⟩,
  List.forall_mem_cons.mpr ⟨⟨sim_aload_n d152_32 rfl, gr_LdA 0 33⟩,
  List.forall_mem_cons.mpr ⟨⟨sim_virtual d152_33 vk107, gr_CalV (fun k => if k = 11 then some 149 else none) 0 36⟩,
  List.forall_mem_cons.mpr ⟨⟨sim_aload_n d152_36 rfl, gr_LdA 0 37⟩,
  List.forall_mem_cons.mpr ⟨⟨sim_getI d152_37 gf166, gr_GetI (fun k => k = 11) 16 40⟩,
  List.forall_mem_cons.mpr ⟨⟨sim_if_ne d152_40 (by decide), gr_If (fun x => ¬ x = 0) 119 43⟩,
  List.forall_mem_cons.mpr ⟨⟨sim_aload_n d152_43 rfl, gr_LdA 0 44⟩,
  List.forall_mem_cons.mpr ⟨⟨sim_getF d152_44 gf168, gr_GetF (fun k => k = 11) 6 47⟩,
  List.forall_mem_cons.mpr ⟨⟨sim_iconst d152_47 (by decide), gr_Push (.int 0) 48⟩,
  List.forall_mem_cons.mpr ⟨⟨sim_iload_n d152_48 rfl, gr_LdI 2 49⟩,
  List.forall_mem_cons.mpr ⟨⟨sim_iload_n d152_49 rfl, gr_LdI 1 50⟩,
  List.forall_mem_cons.mpr ⟨⟨sim_isub d152_50, gr_II (fun x y => x - y) 51⟩,
  List.forall_mem_cons.mpr ⟨⟨sim_iastore d152_51, gr_AStI 52⟩,
  List.forall_mem_cons.mpr ⟨⟨sim_iload_n d152_52 rfl, gr_LdI 1 53⟩,
  List.forall_mem_cons.mpr ⟨⟨sim_istore_n d152_53 rfl (by decide), gr_StI 3 54⟩,
  List.forall_mem_cons.mpr ⟨⟨sim_iload_n d152_54 rfl, gr_LdI 3 55⟩,
  List.forall_mem_cons.mpr ⟨⟨sim_iload_n d152_55 rfl, gr_LdI 2 56⟩,
  List.forall_mem_cons.mpr ⟨⟨sim_icmp_ge d152_56 (by decide), gr_Ic (fun x y => y ≤ x) 109 59⟩,
  List.forall_mem_cons.mpr ⟨⟨sim_aload_n d152_59 rfl, gr_LdA 0 60⟩,
  List.forall_mem_cons.mpr ⟨⟨sim_getF d152_60 gf168, gr_GetF (fun k => k = 11) 6 63⟩,
  List.forall_mem_cons.mpr ⟨⟨sim_iconst d152_63 (by decide), gr_Push (.int 4) 64⟩,
  List.forall_mem_cons.mpr ⟨⟨sim_bipush d152_64 (by decide), gr_Push (.int 7) 66⟩,
  List.forall_mem_cons.mpr ⟨⟨sim_aload_n d152_66 rfl, gr_LdA 0 67⟩,
  List.forall_mem_cons.mpr ⟨⟨sim_getF d152_67 gf168, gr_GetF (fun k => k = 11) 6 70⟩, fun _ h => absurd h List.not_mem_nil⟩⟩⟩⟩⟩⟩⟩⟩⟩⟩⟩⟩⟩⟩⟩⟩⟩⟩⟩⟩⟩⟩⟩⟩⟩⟩⟩⟩⟩⟩⟩⟩⟩⟩⟩⟩⟩⟩⟩⟩
noncomputable def pg152_1 : List (Nat × aP) := [(70, oPush (.int 1) 71),
  (71, oALdI 72),
  (72, oII (fun x y => x * y) 73),
  (73, oII (fun x y => x + y) 74),
  (74, oLdI 3 75),
  (75, oII (fun x y => x + y) 76),
  (76, oLdI 1 77),
  (77, oII (fun x y => x - y) 78),
  (78, oLdA 0 79),
  (79, oGetF (fun k => k = 11) 8 82),
  (82, oLdI 3 83),
  (83, oALdI 84),
  (84, oPush (.int 119) 86),
  (86, oIc (fun x y => ¬ x = y) 93 89),
  (89, oPush (.int (-1)) 90),
  (90, oGo 102),
  (93, oLdA 0 94),
  (94, oGetF (fun k => k = 11) 8 97),
  (97, oLdI 3 98),
  (98, oALdI 99),
  (99, oPush (.int 97) 101),
  (101, oII (fun x y => x - y) 102),
  (102, oAStI 103),
  (103, oInc 3 1 106),
  (106, oGo 54),
  (109, oLdA 0 110),
  (110, oGetF (fun k => k = 11) 6 113),
  (113, oPush (.int 1) 114),
  (114, oDup2 115),
  (115, oALdI 116),
  (116, oPush (.int 1) 117),
  (117, oII (fun x y => x + y) 118),
  (118, oAStI 119),
  (119, oRetV)]
theorem ok152_1 : ∀ q ∈ pg152_1, Sim mT mt152 q.1 q.2 ∧ Grow q.2 :=
  List.forall_mem_cons.mpr ⟨⟨sim_iconst d152_70 (by decide), gr_Push (.int 1) 71⟩,
  List.forall_mem_cons.mpr ⟨⟨sim_iaload d152_71, gr_ALdI 72⟩,
  List.forall_mem_cons.mpr ⟨⟨sim_imul d152_72, gr_II (fun x y => x * y) 73⟩,
  List.forall_mem_cons.mpr ⟨⟨sim_iadd d152_73, gr_II (fun x y => x + y) 74⟩,
  List.forall_mem_cons.mpr ⟨⟨sim_iload_n d152_74 rfl, gr_LdI 3 75⟩,
  List.forall_mem_cons.mpr ⟨⟨sim_iadd d152_75, gr_II (fun x y => x + y) 76⟩,
  List.forall_mem_cons.mpr ⟨⟨sim_iload_n d152_76 rfl, gr_LdI 1 77⟩,
  List.forall_mem_cons.mpr ⟨⟨sim_isub d152_77, gr_II (fun x y => x - y) 78⟩,
  List.forall_mem_cons.mpr ⟨⟨sim_aload_n d152_78 rfl, gr_LdA 0 79⟩,
  List.forall_mem_cons.mpr ⟨⟨sim_getF d152_79 gf160, gr_GetF (fun k => k = 11) 8 82⟩,
  List.forall_mem_cons.mpr ⟨⟨sim_iload_n d152_82 rfl, gr_LdI 3 83⟩,
  List.forall_mem_cons.mpr ⟨⟨sim_iaload d152_83, gr_ALdI 84⟩,
  List.forall_mem_cons.mpr ⟨⟨sim_bipush d152_84 (by decide), gr_Push (.int 119) 86⟩,
  List.forall_mem_cons.mpr ⟨⟨sim_icmp_ne d152_86 (by decide), gr_Ic (fun x y => ¬ x = y) 93 89⟩,
  List.forall_mem_cons.mpr ⟨⟨sim_iconst d152_89 (by decide), gr_Push (.int (-1)) 90⟩,
  List.forall_mem_cons.mpr ⟨⟨sim_goto d152_90 (by decide), gr_Go 102⟩,
  List.forall_mem_cons.mpr ⟨⟨sim_aload_n d152_93 rfl, gr_LdA 0 94⟩,
  List.forall_mem_cons.mpr ⟨⟨sim_getF d152_94 gf160, gr_GetF (fun k => k = 11) 8 97⟩,
  List.forall_mem_cons.mpr ⟨⟨sim_iload_n d152_97 rfl, gr_LdI 3 98⟩,
  List.forall_mem_cons.mpr ⟨⟨sim_iaload d152_98, gr_ALdI 99⟩,
  List.forall_mem_cons.mpr ⟨⟨sim_bipush d152_99 (by decide), gr_Push (.int 97) 101⟩,
  List.forall_mem_cons.mpr ⟨⟨sim_isub d152_101, gr_II (fun x y => x - y) 102⟩,
  List.forall_mem_cons.mpr ⟨⟨sim_iastore d152_102, gr_AStI 103⟩,
  List.forall_mem_cons.mpr ⟨⟨sim_iinc d152_103 (by decide) (by decide), gr_Inc 3 1 106⟩,
  List.forall_mem_cons.mpr ⟨⟨sim_goto d152_106 (by decide), gr_Go 54⟩,
  List.forall_mem_cons.mpr ⟨⟨sim_aload_n d152_109 rfl, gr_LdA 0 110⟩,
  List.forall_mem_cons.mpr ⟨⟨sim_getF d152_110 gf168, gr_GetF (fun k => k = 11) 6 113⟩,
  List.forall_mem_cons.mpr ⟨⟨sim_iconst d152_113 (by decide), gr_Push (.int 1) 114⟩,
  List.forall_mem_cons.mpr ⟨⟨sim_dup2 d152_114, gr_Dup2 115⟩,
  List.forall_mem_cons.mpr ⟨⟨sim_iaload d152_115, gr_ALdI 116⟩,
  List.forall_mem_cons.mpr ⟨⟨sim_iconst d152_116 (by decide), gr_Push (.int 1) 117⟩,
  List.forall_mem_cons.mpr ⟨⟨sim_iadd d152_117, gr_II (fun x y => x + y) 118⟩,
  List.forall_mem_cons.mpr ⟨⟨sim_iastore d152_118, gr_AStI 119⟩,
  List.forall_mem_cons.mpr ⟨⟨sim_return d152_119 rfl, gr_RetV⟩, fun _ h => absurd h List.not_mem_nil⟩⟩⟩⟩⟩⟩⟩⟩⟩⟩⟩⟩⟩⟩⟩⟩⟩⟩⟩⟩⟩⟩⟩⟩⟩⟩⟩⟩⟩⟩⟩⟩⟩⟩
noncomputable def pg152 : List (Nat × aP) := pg152_0 ++ (pg152_1)
theorem ok152 : ∀ q ∈ pg152, Sim mT mt152 q.1 q.2 ∧ Grow q.2 := List.forall_mem_append.mpr ⟨ok152_0, ok152_1⟩
theorem d153_0 : decode mt153.2.1 0 = .ok (.aload_n 0, 1) := by decide +kernel
theorem d153_1 : decode mt153.2.1 1 = .ok (.iconst 2, 1) := by decide +kernel
theorem d153_2 : decode mt153.2.1 2 = .ok (.bipush 8, 2) := by decide +kernel
theorem d153_4 : decode mt153.2.1 4 = .ok (.invokevirtual 157, 3) := by decide +kernel
theorem d153_7 : decode mt153.2.1 7 = .ok (.aload_n 0, 1) := by decide +kernel
theorem d153_8 : decode mt153.2.1 8 = .ok (.iconst 0, 1) := by decide +kernel
theorem d153_9 : decode mt153.2.1 9 = .ok (.aload_n 0, 1) := by decide +kernel
theorem d153_10 : decode mt153.2.1 10 = .ok (.getfield 22, 3) := by decide +kernel
theorem d153_13 : decode mt153.2.1 13 = .ok (.iconst 0, 1) := by decide +kernel
theorem d153_14 : decode mt153.2.1 14 = .ok (.iaload, 1) := by decide +kernel
theorem d153_15 : decode mt153.2.1 15 = .ok (.invokevirtual 168, 3) := by decide +kernel
theorem d153_18 : decode mt153.2.1 18 = .ok (.istore_n 1, 1) := by decide +kernel
theorem d153_19 : decode mt153.2.1 19 = .ok (.aload_n 0, 1) := by decide +kernel
theorem d153_20 : decode mt153.2.1 20 = .ok (.iconst 0, 1) := by decide +kernel
theorem d153_21 : decode mt153.2.1 21 = .ok (.aload_n 0, 1) := by decide +kernel
theorem d153_22 : decode mt153.2.1 22 = .ok (.getfield 22, 3) := by decide +kernel
theorem d153_25 : decode mt153.2.1 25 = .ok (.iconst 1, 1) := by decide +kernel
theorem d153_26 : decode mt153.2.1 26 = .ok (.iaload, 1) := by decide +kernel
theorem d153_27 : decode mt153.2.1 27 = .ok (.invokevirtual 168, 3) := by decide +kernel
theorem d153_30 : decode mt153.2.1 30 = .ok (.istore_n 2, 1) := by decide +kernel
theorem d153_31 : decode mt153.2.1 31 = .ok (.aload_n 0, 1) := by decide +kernel
theorem d153_32 : decode mt153.2.1 32 = .ok (.invokevirtual 165, 3) := by decide +kernel
theorem d153_35 : decode mt153.2.1 35 = .ok (.aload_n 0, 1) := by decide +kernel
theorem d153_36 : decode mt153.2.1 36 = .ok (.getfield 132, 3) := by decide +kernel
theorem d153_39 : decode mt153.2.1 39 = .ok (.ifCond .ne 28, 3) := by decide +kernel
theorem d153_42 : decode mt153.2.1 42 = .ok (.aload_n 0, 1) := by decide +kernel
theorem d153_43 : decode mt153.2.1 43 = .ok (.getfield 22, 3) := by decide +kernel
theorem d153_46 : decode mt153.2.1 46 = .ok (.bipush 46, 2) := by decide +kernel
theorem d153_48 : decode mt153.2.1 48 = .ok (.iload_n 1, 1) := by decide +kernel
theorem d153_49 : decode mt153.2.1 49 = .ok (.iadd, 1) := by decide +kernel
theorem d153_50 : decode mt153.2.1 50 = .ok (.bipush 8, 2) := by decide +kernel
theorem d153_52 : decode mt153.2.1 52 = .ok (.iload_n 2, 1) := by decide +kernel
theorem d153_53 : decode mt153.2.1 53 = .ok (.imul, 1) := by decide +kernel
theorem d153_54 : decode mt153.2.1 54 = .ok (.iadd, 1) := by decide +kernel
theorem d153_55 : decode mt153.2.1 55 = .ok (.iconst 1, 1) := by decide +kernel
theorem d153_56 : decode mt153.2.1 56 = .ok (.iastore, 1) := by decide +kernel
theorem d153_57 : decode mt153.2.1 57 = .ok (.aload_n 0, 1) := by decide +kernel
theorem d153_58 : decode mt153.2.1 58 = .ok (.getfield 22, 3) := by decide +kernel
theorem d153_61 : decode mt153.2.1 61 = .ok (.iconst 2, 1) := by decide +kernel
theorem d153_62 : decode mt153.2.1 62 = .ok (.dup2, 1) := by decide +kernel
theorem d153_63 : decode mt153.2.1 63 = .ok (.iaload, 1) := by decide +kernel
theorem d153_64 : decode mt153.2.1 64 = .ok (.iconst 1, 1) := by decide +kernel
theorem d153_65 : decode mt153.2.1 65 = .ok (.iadd, 1) := by decide +kernel
theorem d153_66 : decode mt153.2.1 66 = .ok (.iastore, 1) := by decide +kernel
theorem d153_67 : decode mt153.2.1 67 = .ok (.return_, 1) := by decide +kernel
noncomputable def pg153_0 : List (Nat × aP) := [(0, oLdA 0 1),
  (1, oPush (.int 2) 2),
  (2, oPush (.int 8) 4),
  (4, oCalV (fun k => if k = 11 then some 150 else none) 2 7),
  (7, oLdA 0 8),
  (8, oPush (.int 0) 9),
  (9, oLdA 0 10),
  (10, oGetF (fun k => k = 11) 6 13),
  (13, oPush (.int 0) 14),
  (14, oALdI 15),
  (15, oCalV (fun k => if k = 11 then some 148 else none) 2 18),
  (18, oStI 1 19),
  (19, oLdA 0 20),
  (20, oPush (.int 0) 21),
  (21, oLdA 0 22),
  (22, oGetF (fun k => k = 11) 6 25),
  (25, oPush (.int 1) 26),
  (26, oALdI 27),
  (27, oCalV (fun k => if k = 11 then some 148 else none) 2 30),
  (30, oStI 2 31),
  (31, oLdA 0 32),
  (32, oCalV (fun k => if k = 11 then some 149 else none) 0 35),
  (35, oLdA 0 36),
  (36, oGetI (fun k => k = 11) 16 39),
  (39, oIf (fun x => ¬ x = 0) 67 42),
  (42, oLdA 0 43),
  (43, oGetF (fun k => k = 11) 6 46),
  (46, oPush (.int 46) 48),
  (48, oLdI 1 49),
  (49, oII (fun x y => x + y) 50),
  (50, oPush (.int 8) 52),
  (52, oLdI 2 53),
  (53, oII (fun x y => x * y) 54),
  (54, oII (fun x y => x + y) 55),
  (55, oPush (.int 1) 56),
  (56, oAStI 57),
  (57, oLdA 0 58),
  (58, oGetF (fun k => k = 11) 6 61),
  (61, oPush (.int 2) 62),
  (62, oDup2 63)]
theorem ok153_0 : ∀ q ∈ pg153_0, Sim mT mt153 q.1 q.2 ∧ Grow q.2 :=
  List.forall_mem_cons.mpr ⟨⟨sim_aload_n d153_0 rfl, gr_LdA 0 1⟩,
  List.forall_mem_cons.mpr ⟨⟨sim_iconst d153_1 (by decide), gr_Push (.int 2) 2⟩,
  List.forall_mem_cons.mpr ⟨⟨sim_bipush d153_2 (by decide), gr_Push (.int 8) 4⟩,
  List.forall_mem_cons.mpr ⟨⟨sim_virtual d153_4 vk105, gr_CalV (fun k => if k = 11 then some 150 else none) 2 7⟩,
  List.forall_mem_cons.mpr ⟨⟨sim_aload_n d153_7 rfl, gr_LdA 0 8⟩,
  List.forall_mem_cons.mpr ⟨⟨sim_iconst d153_8 (by decide), gr_Push (.int 0) 9⟩,
  List.forall_mem_cons.mpr ⟨⟨sim_aload_n d153_9 rfl, gr_LdA 0 10⟩,
  List.forall_mem_cons.mpr ⟨⟨sim_getF d153_10 gf168, gr_GetF (fun k => k = 11) 6 13⟩,
  List.forall_mem_cons.mpr ⟨⟨sim_iconst d153_13 (by decide), gr_Push (.int 0) 14⟩,
  List.forall_mem_cons.mpr ⟨⟨sim_iaload d153_14, gr_ALdI 15⟩,
  List.forall_mem_cons.mpr ⟨⟨sim_virtual d153_15 vk108, gr_CalV (fun k => if k = 11 then some 148 else none) 2 18⟩,
  List.forall_mem_cons.mpr ⟨⟨sim_istore_n d153_18 rfl (by decide), gr_StI 1 19⟩,
  List.forall_mem_cons.mpr ⟨⟨sim_aload_n d153_19 rfl, gr_LdA 0 20⟩,
  List.forall_mem_cons.mpr ⟨⟨sim_iconst d153_20 (by decide), gr_Push (.int 0) 21⟩,
  List.forall_mem_cons.mpr ⟨⟨sim_aload_n d153_21 rfl, gr_LdA 0 22⟩,
  List.forall_mem_cons.mpr ⟨⟨sim_getF d153_22 gf168, gr_GetF (fun k => k = 11) 6 25⟩,
  List.forall_mem_cons.mpr ⟨⟨sim_iconst d153_25 (by decide), gr_Push (.int 1) 26⟩,
  List.forall_mem_cons.mpr ⟨⟨sim_iaload d153_26, gr_ALdI 27⟩,
  List.forall_mem_cons.mpr ⟨⟨sim_virtual d153_27 vk108, gr_CalV (fun k => if k = 11 then some 148 else none) 2 30⟩,
  List.forall_mem_cons.mpr ⟨⟨sim_istore_n d153_30 rfl (by decide), gr_StI 2 31⟩,
  List.forall_mem_cons.mpr ⟨⟨sim_aload_n d153_31 rfl, gr_LdA 0 32⟩,
  List.forall_mem_cons.mpr ⟨⟨sim_virtual d153_32 vk107, gr_CalV (fun k => if k = 11 then some 149 else none) 0 35⟩,
  List.forall_mem_cons.mpr ⟨⟨sim_aload_n d153_35 rfl, gr_LdA 0 36⟩,
  List.forall_mem_cons.mpr ⟨⟨sim_getI d153_36 gf166, gr_GetI (fun k => k = 11) 16 39⟩,
  List.forall_mem_cons.mpr ⟨⟨sim_if_ne d153_39 (by decide), gr_If (fun x => ¬ x = 0) 67 42⟩,
  List.forall_mem_cons.mpr ⟨⟨sim_aload_n d153_42 rfl, gr_LdA 0 43⟩,
  List.forall_mem_cons.mpr ⟨⟨sim_getF d153_43 gf168, gr_GetF (fun k => k = 11) 6 46⟩,
  List.forall_mem_cons.mpr ⟨⟨sim_bipush d153_46 (by decide), gr_Push (.int 46) 48⟩,
  List.forall_mem_cons.mpr ⟨⟨sim_iload_n d153_48 rfl, gr_LdI 1 49⟩,
  List.forall_mem_cons.mpr ⟨⟨sim_iadd d153_49, gr_II (fun x y => x + y) 50⟩,
  List.forall_mem_cons.mpr ⟨⟨sim_bipush d153_50 (by decide), gr_Push (.int 8) 52⟩,
  List.forall_mem_cons.mpr ⟨⟨sim_iload_n d153_52 rfl, gr_LdI 2 53⟩,
  List.forall_mem_cons.mpr ⟨⟨sim_imul d153_53, gr_II (fun x y => x * y) 54⟩,
  List.forall_mem_cons.mpr ⟨⟨sim_iadd d153_54, gr_II (fun x y => x + y) 55⟩,
  List.forall_mem_cons.mpr ⟨⟨sim_iconst d153_55 (by decide), gr_Push (.int 1) 56⟩,
  List.forall_mem_cons.mpr ⟨⟨sim_iastore d153_56, gr_AStI 57⟩,
  List.forall_mem_cons.mpr ⟨⟨sim_aload_n d153_57 rfl, gr_LdA 0 58⟩,
  List.forall_mem_cons.mpr ⟨⟨sim_getF d153_58 gf168, gr_GetF (fun k => k = 11) 6 61⟩,
  List.forall_mem_cons.mpr ⟨⟨sim_iconst d153_61 (by decide), gr_Push (.int 2) 62⟩,
  List.forall_mem_cons.mpr ⟨⟨sim_dup2 d153_62, gr_Dup2 63⟩, fun _ h => absurd h List.not_mem_nil⟩⟩⟩⟩⟩⟩⟩⟩⟩⟩⟩⟩⟩⟩⟩⟩⟩⟩⟩⟩⟩⟩⟩⟩⟩⟩⟩⟩⟩⟩⟩⟩⟩⟩⟩⟩⟩⟩⟩⟩
noncomputable def pg153_1 : List (Nat × aP) := [(63, oALdI 64),
  (64, oPush (.int 1) 65),
  (65, oII (fun x y => x + y) 66),
  (66, oAStI 67),
  (67, oRetV)]
theorem ok153_1 : ∀ q ∈ pg153_1, Sim mT mt153 q.1 q.2 ∧ Grow q.2 :=
  List.forall_mem_cons.mpr ⟨⟨sim_iaload d153_63, gr_ALdI 64⟩,
  List.forall_mem_cons.mpr ⟨⟨sim_iconst d153_64 (by decide), gr_Push (.int 1) 65⟩,
  List.forall_mem_cons.mpr ⟨⟨sim_iadd d153_65, gr_II (fun x y => x + y) 66⟩,
  List.forall_mem_cons.mpr ⟨⟨sim_iastore d153_66, gr_AStI 67⟩,
  List.forall_mem_cons.mpr ⟨⟨sim_return d153_67 rfl, gr_RetV⟩, fun _ h => absurd h List.not_mem_nil⟩⟩⟩⟩⟩
noncomputable def pg153 : List (Nat × aP) := pg153_0 ++ (pg153_1)
theorem ok153 : ∀ q ∈ pg153, Sim mT mt153 q.1 q.2 ∧ Grow q.2 := List.forall_mem_append.mpr ⟨ok153_0, ok153_1⟩
theorem d154_0 : decode mt154.2.1 0 = .ok (.aload_n 0, 1) := by decide +kernel
theorem d154_1 : decode mt154.2.1 1 = .ok (.iconst 3, 1) := by decide +kernel
theorem d154_2 : decode mt154.2.1 2 = .ok (.iconst 4, 1) := by decide +kernel
theorem d154_3 : decode mt154.2.1 3 = .ok (.invokevirtual 157, 3) := by decide +kernel
theorem d154_6 : decode mt154.2.1 6 = .ok (.aload_n 0, 1) := by decide +kernel
theorem d154_7 : decode mt154.2.1 7 = .ok (.iconst 0, 1) := by decide +kernel
theorem d154_8 : decode mt154.2.1 8 = .ok (.aload_n 0, 1) := by decide +kernel
theorem d154_9 : decode mt154.2.1 9 = .ok (.getfield 22, 3) := by decide +kernel
theorem d154_12 : decode mt154.2.1 12 = .ok (.iconst 0, 1) := by decide +kernel
theorem d154_13 : decode mt154.2.1 13 = .ok (.iaload, 1) := by decide +kernel
theorem d154_14 : decode mt154.2.1 14 = .ok (.invokevirtual 168, 3) := by decide +kernel
theorem d154_17 : decode mt154.2.1 17 = .ok (.istore_n 1, 1) := by decide +kernel
theorem d154_18 : decode mt154.2.1 18 = .ok (.aload_n 0, 1) := by decide +kernel
theorem d154_19 : decode mt154.2.1 19 = .ok (.invokevirtual 145, 3) := by decide +kernel
theorem d154_22 : decode mt154.2.1 22 = .ok (.istore_n 2, 1) := by decide +kernel
theorem d154_23 : decode mt154.2.1 23 = .ok (.aload_n 0, 1) := by decide +kernel
theorem d154_24 : decode mt154.2.1 24 = .ok (.getfield 132, 3) := by decide +kernel
theorem d154_27 : decode mt154.2.1 27 = .ok (.ifCond .ne 50, 3) := by decide +kernel
theorem d154_30 : decode mt154.2.1 30 = .ok (.aload_n 0, 1) := by decide +kernel
theorem d154_31 : decode mt154.2.1 31 = .ok (.getfield 120, 3) := by decide +kernel
theorem d154_34 : decode mt154.2.1 34 = .ok (.iconst 3, 1) := by decide +kernel
theorem d154_35 : decode mt154.2.1 35 = .ok (.if_icmp .ne 42, 3) := by decide +kernel
theorem d154_38 : decode mt154.2.1 38 = .ok (.iload_n 2, 1) := by decide +kernel
theorem d154_39 : decode mt154.2.1 39 = .ok (.i2l, 1) := by decide +kernel
theorem d154_40 : decode mt154.2.1 40 = .ok (.lconst 0, 1) := by decide +kernel
theorem d154_41 : decode mt154.2.1 41 = .ok (.aload_n 0, 1) := by decide +kernel
theorem d154_42 : decode mt154.2.1 42 = .ok (.getfield 22, 3) := by decide +kernel
theorem d154_45 : decode mt154.2.1 45 = .ok (.iconst 1, 1) := by decide +kernel
theorem d154_46 : decode mt154.2.1 46 = .ok (.iaload, 1) := by decide +kernel
theorem d154_47 : decode mt154.2.1 47 = .ok (.i2l, 1) := by decide +kernel
theorem d154_48 : decode mt154.2.1 48 = .ok (.invokestatic 84, 3) := by decide +kernel
theorem d154_51 : decode mt154.2.1 51 = .ok (.ifCond .eq 26, 3) := by decide +kernel
theorem d154_54 : decode mt154.2.1 54 = .ok (.aload_n 0, 1) := by decide +kernel
theorem d154_55 : decode mt154.2.1 55 = .ok (.getfield 22, 3) := by decide +kernel
theorem d154_58 : decode mt154.2.1 58 = .ok (.bipush 46, 2) := by decide +kernel
theorem d154_60 : decode mt154.2.1 60 = .ok (.iload_n 1, 1) := by decide +kernel
theorem d154_61 : decode mt154.2.1 61 = .ok (.iadd, 1) := by decide +kernel
theorem d154_62 : decode mt154.2.1 62 = .ok (.bipush 8, 2) := by decide +kernel
theorem d154_64 : decode mt154.2.1 64 = .ok (.iload_n 2, 1) := by decide +kernel
theorem d154_65 : decode mt154.2.1 65 = .ok (.imul, 1) := by decide +kernel
theorem d154_66 : decode mt154.2.1 66 = .ok (.iadd, 1) := by decide +kernel
theorem d154_67 : decode mt154.2.1 67 = .ok (.iaload, 1) := by decide +kernel
theorem d154_68 : decode mt154.2.1 68 = .ok (.iconst 1, 1) := by decide +kernel
theorem d154_69 : decode mt154.2.1 69 = .ok (.if_icmp .ne 8, 3) := by decide +kernel
theorem d154_72 : decode mt154.2.1 72 = .ok (.aload_n 0, 1) := by decide +kernel
theorem d154_73 : decode mt154.2.1 73 = .ok (.iconst 2, 1) := by decide +kernel
theorem d154_74 : decode mt154.2.1 74 = .ok (.invokevirtual 141, 3) := by decide +kernel
theorem d154_77 : decode mt154.2.1 77 = .ok (.aload_n 0, 1) := by decide +kernel
theorem d154_78 : decode mt154.2.1 78 = .ok (.iconst 0, 1) := by decide +kernel
theorem d154_79 : decode mt154.2.1 79 = .ok (.aload_n 0, 1) := by decide +kernel
theorem d154_80 : decode mt154.2.1 80 = .ok (.getfield 22, 3) := by decide +kernel
theorem d154_83 : decode mt154.2.1 83 = .ok (.iconst 1, 1) := by decide +kernel
theorem d154_84 : decode mt154.2.1 84 = .ok (.iaload, 1) := by decide +kernel
theorem d154_85 : decode mt154.2.1 85 = .ok (.invokevirtual 168, 3) := by decide +kernel
theorem d154_88 : decode mt154.2.1 88 = .ok (.istore_n 2, 1) := by decide +kernel
theorem d154_89 : decode mt154.2.1 89 = .ok (.aload_n 0, 1) := by decide +kernel
theorem d154_90 : decode mt154.2.1 90 = .ok (.iconst 0, 1) := by decide +kernel
theorem d154_91 : decode mt154.2.1 91 = .ok (.bipush 12, 2) := by decide +kernel
theorem d154_93 : decode mt154.2.1 93 = .ok (.invokevirtual 168, 3) := by decide +kernel
theorem d154_96 : decode mt154.2.1 96 = .ok (.istore_n 3, 1) := by decide +kernel
theorem d154_97 : decode mt154.2.1 97 = .ok (.aload_n 0, 1) := by decide +kernel
theorem d154_98 : decode mt154.2.1 98 = .ok (.invokevirtual 165, 3) := by decide +kernel
theorem d154_101 : decode mt154.2.1 101 = .ok (.aload_n 0, 1) := by decide +kernel
theorem d154_102 : decode mt154.2.1 102 = .ok (.getfield 132, 3) := by decide +kernel
theorem d154_105 : decode mt154.2.1 105 = .ok (.ifCond .ne 54, 3) := by decide +kernel
theorem d154_108 : decode mt154.2.1 108 = .ok (.aload_n 0, 1) := by decide +kernel
theorem d154_109 : decode mt154.2.1 109 = .ok (.getfield 22, 3) := by decide +kernel
theorem d154_112 : decode mt154.2.1 112 = .ok (.bipush 102, 2) := by decide +kernel
theorem d154_114 : decode mt154.2.1 114 = .ok (.iconst 2, 1) := by decide +kernel
theorem d154_115 : decode mt154.2.1 115 = .ok (.aload_n 0, 1) := by decide +kernel
theorem d154_116 : decode mt154.2.1 116 = .ok (.getfield 22, 3) := by decide +kernel
theorem d154_119 : decode mt154.2.1 119 = .ok (.iconst 3, 1) := by decide +kernel
theorem d154_120 : decode mt154.2.1 120 = .ok (.iaload, 1) := by decide +kernel
theorem d154_121 : decode mt154.2.1 121 = .ok (.imul, 1) := by decide +kernel
theorem d154_122 : decode mt154.2.1 122 = .ok (.iadd, 1) := by decide +kernel
theorem d154_123 : decode mt154.2.1 123 = .ok (.iload_n 1, 1) := by decide +kernel
theorem d154_124 : decode mt154.2.1 124 = .ok (.bipush 8, 2) := by decide +kernel
theorem d154_126 : decode mt154.2.1 126 = .ok (.iload_n 2, 1) := by decide +kernel
theorem d154_127 : decode mt154.2.1 127 = .ok (.imul, 1) := by decide +kernel
theorem d154_128 : decode mt154.2.1 128 = .ok (.iadd, 1) := by decide +kernel
theorem d154_129 : decode mt154.2.1 129 = .ok (.iastore, 1) := by decide +kernel
theorem d154_130 : decode mt154.2.1 130 = .ok (.aload_n 0, 1) := by decide +kernel
theorem d154_131 : decode mt154.2.1 131 = .ok (.getfield 22, 3) := by decide +kernel
theorem d154_134 : decode mt154.2.1 134 = .ok (.bipush 102, 2) := by decide +kernel
theorem d154_136 : decode mt154.2.1 136 = .ok (.iconst 2, 1) := by decide +kernel
theorem d154_137 : decode mt154.2.1 137 = .ok (.aload_n 0, 1) := by decide +kernel
theorem d154_138 : decode mt154.2.1 138 = .ok (.getfield 22, 3) := by decide +kernel
theorem d154_141 : decode mt154.2.1 141 = .ok (.iconst 3, 1) := by decide +kernel
theorem d154_142 : decode mt154.2.1 142 = .ok (.iaload, 1) := by decide +kernel
theorem d154_143 : decode mt154.2.1 143 = .ok (.imul, 1) := by decide +kernel
theorem d154_144 : decode mt154.2.1 144 = .ok (.iadd, 1) := by decide +kernel
theorem d154_145 : decode mt154.2.1 145 = .ok (.iconst 1, 1) := by decide +kernel
theorem d154_146 : decode mt154.2.1 146 = .ok (.iadd, 1) := by decide +kernel
theorem d154_147 : decode mt154.2.1 147 = .ok (.iload_n 3, 1) := by decide +kernel
theorem d154_148 : decode mt154.2.1 148 = .ok (.iastore, 1) := by decide +kernel
theorem d154_149 : decode mt154.2.1 149 = .ok (.aload_n 0, 1) := by decide +kernel
theorem d154_150 : decode mt154.2.1 150 = .ok (.getfield 22, 3) := by decide +kernel
theorem d154_153 : decode mt154.2.1 153 = .ok (.iconst 3, 1) := by decide +kernel
theorem d154_154 : decode mt154.2.1 154 = .ok (.dup2, 1) := by decide +kernel
theorem d154_155 : decode mt154.2.1 155 = .ok (.iaload, 1) := by decide +kernel
theorem d154_156 : decode mt154.2.1 156 = .ok (.iconst 1, 1) := by decide +kernel
theorem d154_157 : decode mt154.2.1 157 = .ok (.iadd, 1) := by decide +kernel
theorem d154_158 : decode mt154.2.1 158 = .ok (.iastore, 1) := by decide +kernel
theorem d154_159 : decode mt154.2.1 159 = .ok (.return_, 1) := by decide +kernel
noncomputable def pg154_0 : List (Nat × aP) := [(0, oLdA 0 1),
  (1, oPush (.int 3) 2),
  (2, oPush (.int 4) 3),
  (3, oCalV (fun k => if k = 11 then some 150 else none) 2 6),
  (6, oLdA 0 7),
  (7, oPush (.int 0) 8),
  (8, oLdA 0 9),
  (9, oGetF (fun k => k = 11) 6 12),
  (12, oPush (.int 0) 13),
  (13, oALdI 14),
  (14, oCalV (fun k => if k = 11 then some 148 else none) 2 17),
  (17, oStI 1 18),
  (18, oLdA 0 19),
  (19, oCalV (fun k => if k = 11 then some 147 else none) 0 22),
  (22, oStI 2 23),
  (23, oLdA 0 24),
  (24, oGetI (fun k => k = 11) 16 27),
  (27, oIf (fun x => ¬ x = 0) 77 30),
  (30, oLdA 0 31),
  (31, oGetI (fun k => k = 11) 13 34),
  (34, oPush (.int 3) 35),
  (35, oIc (fun x y => ¬ x = y) 77 38),
  (38, oLdI 2 39),
  (39, oIL (fun x => x.toInt64) 40),
  (40, oPush (.long 0) 41),
  (41, oLdA 0 42),
  (42, oGetF (fun k => k = 11) 6 45),
  (45, oPush (.int 1) 46),
  (46, oALdI 47),
  (47, oIL (fun x => x.toInt64) 48),
  (48, oCall 131 3 51),
  (51, oIf (fun x => x = 0) 77 54),
  (54, oLdA 0 55),
  (55, oGetF (fun k => k = 11) 6 58),
  (58, oPush (.int 46) 60),
  (60, oLdI 1 61),
  (61, oII (fun x y => x + y) 62),
  (62, oPush (.int 8) 64),
  (64, oLdI 2 65),
  (65, oII (fun x y => x * y) 66)]
theorem ok154_0 : ∀ q ∈ pg154_0, Sim mT mt154 q.1 q.2 ∧ Grow q.2 :=
  List.forall_mem_cons.mpr ⟨⟨sim_aload_n d154_0 rfl, gr_LdA 0 1⟩,
  List.forall_mem_cons.mpr ⟨⟨sim_iconst d154_1 (by decide), gr_Push (.int 3) 2⟩,
  List.forall_mem_cons.mpr ⟨⟨sim_iconst d154_2 (by decide), gr_Push (.int 4) 3⟩,
  List.forall_mem_cons.mpr ⟨⟨sim_virtual d154_3 vk105, gr_CalV (fun k => if k = 11 then some 150 else none) 2 6⟩,
  List.forall_mem_cons.mpr ⟨⟨sim_aload_n d154_6 rfl, gr_LdA 0 7⟩,
  List.forall_mem_cons.mpr ⟨⟨sim_iconst d154_7 (by decide), gr_Push (.int 0) 8⟩,
  List.forall_mem_cons.mpr ⟨⟨sim_aload_n d154_8 rfl, gr_LdA 0 9⟩,
  List.forall_mem_cons.mpr ⟨⟨sim_getF d154_9 gf168, gr_GetF (fun k => k = 11) 6 12⟩,
  List.forall_mem_cons.mpr ⟨⟨sim_iconst d154_12 (by decide), gr_Push (.int 0) 13⟩,
  List.forall_mem_cons.mpr ⟨⟨sim_iaload d154_13, gr_ALdI 14⟩,
  List.forall_mem_cons.mpr ⟨⟨sim_virtual d154_14 vk108, gr_CalV (fun k => if k = 11 then some 148 else none) 2 17⟩,
  List.forall_mem_cons.mpr ⟨⟨sim_istore_n d154_17 rfl (by decide), gr_StI 1 18⟩,
  List.forall_mem_cons.mpr ⟨⟨sim_aload_n d154_18 rfl, gr_LdA 0 19⟩,
  List.forall_mem_cons.mpr ⟨⟨sim_virtual d154_19 vk103, gr_CalV (fun k => if k = 11 then some 147 else none) 0 22⟩,
  List.forall_mem_cons.mpr ⟨⟨sim_istore_n d154_22 rfl (by decide), gr_StI 2 23⟩,
  List.forall_mem_cons.mpr ⟨⟨sim_aload_n d154_23 rfl, gr_LdA 0 24⟩,
  List.forall_mem_cons.mpr ⟨⟨sim_getI d154_24 gf166, gr_GetI (fun k => k = 11) 16 27⟩,
  List.forall_mem_cons.mpr ⟨⟨sim_if_ne d154_27 (by decide), gr_If (fun x => ¬ x = 0) 77 30⟩,
  List.forall_mem_cons.mpr ⟨⟨sim_aload_n d154_30 rfl, gr_LdA 0 31⟩,
  List.forall_mem_cons.mpr ⟨⟨sim_getI d154_31 gf164, gr_GetI (fun k => k = 11) 13 34⟩,
  List.forall_mem_cons.mpr ⟨⟨sim_iconst d154_34 (by decide), gr_Push (.int 3) 35⟩,
  List.forall_mem_cons.mpr ⟨⟨sim_icmp_ne d154_35 (by decide), gr_Ic (fun x y => ¬ x = y) 77 38⟩,
  List.forall_mem_cons.mpr ⟨⟨sim_iload_n d154_38 rfl, gr_LdI 2 39⟩,
  List.forall_mem_cons.mpr ⟨⟨sim_i2l d154_39, gr_IL (fun x => x.toInt64) 40⟩,
  List.forall_mem_cons.mpr ⟨⟨sim_lconst d154_40 (by decide), gr_Push (.long 0) 41⟩,
  List.forall_mem_cons.mpr ⟨⟨sim_aload_n d154_41 rfl, gr_LdA 0 42⟩,
  List.forall_mem_cons.mpr ⟨⟨sim_getF d154_42 gf168, gr_GetF (fun k => k = 11) 6 45⟩,
  List.forall_mem_cons.mpr ⟨⟨sim_iconst d154_45 (by decide), gr_Push (.int 1) 46⟩,
  List.forall_mem_cons.mpr ⟨⟨sim_iaload d154_46, gr_ALdI 47⟩,
  List.forall_mem_cons.mpr ⟨⟨sim_i2l d154_47, gr_IL (fun x => x.toInt64) 48⟩,
  List.forall_mem_cons.mpr ⟨⟨sim_static (y := 131) d154_48 (Or.inl kw1038) kw1039 mo131, gr_Call 131 3 51⟩,
  List.forall_mem_cons.mpr ⟨⟨sim_if_eq d154_51 (by decide), gr_If (fun x => x = 0) 77 54⟩,
  List.forall_mem_cons.mpr ⟨⟨sim_aload_n d154_54 rfl, gr_LdA 0 55⟩,
  List.forall_mem_cons.mpr ⟨⟨sim_getF d154_55 gf168, gr_GetF (fun k => k = 11) 6 58⟩,
  List.forall_mem_cons.mpr ⟨⟨sim_bipush d154_58 (by decide), gr_Push (.int 46) 60⟩,
  List.forall_mem_cons.mpr ⟨⟨sim_iload_n d154_60 rfl, gr_LdI 1 61⟩,
  List.forall_mem_cons.mpr ⟨⟨sim_iadd d154_61, gr_II (fun x y => x + y) 62⟩,
  List.forall_mem_cons.mpr ⟨⟨sim_bipush d154_62 (by decide), gr_Push (.int 8) 64⟩,
  List.forall_mem_cons.mpr ⟨⟨sim_iload_n d154_64 rfl, gr_LdI 2 65⟩,
  List.forall_mem_cons.mpr ⟨⟨sim_imul d154_65, gr_II (fun x y => x * y) 66⟩, fun _ h => absurd h List.not_mem_nil⟩⟩⟩⟩⟩⟩⟩⟩⟩⟩⟩⟩⟩⟩⟩⟩⟩⟩⟩⟩⟩⟩⟩⟩⟩⟩⟩⟩⟩⟩⟩⟩⟩⟩⟩⟩⟩⟩⟩⟩
noncomputable def pg154_1 : List (Nat × aP) := [(66, oII (fun x y => x + y) 67),
  (67, oALdI 68),
  (68, oPush (.int 1) 69),
  (69, oIc (fun x y => ¬ x = y) 77 72),
  (72, oLdA 0 73),
  (73, oPush (.int 2) 74),
  (74, oCalV (fun k => if k = 11 then some 144 else none) 1 77),
  (77, oLdA 0 78),
  (78, oPush (.int 0) 79),
  (79, oLdA 0 80),
  (80, oGetF (fun k => k = 11) 6 83),
  (83, oPush (.int 1) 84),
  (84, oALdI 85),
  (85, oCalV (fun k => if k = 11 then some 148 else none) 2 88),
  (88, oStI 2 89),
  (89, oLdA 0 90),
  (90, oPush (.int 0) 91),
  (91, oPush (.int 12) 93),
  (93, oCalV (fun k => if k = 11 then some 148 else none) 2 96),
  (96, oStI 3 97),
  (97, oLdA 0 98),
  (98, oCalV (fun k => if k = 11 then some 149 else none) 0 101),
  (101, oLdA 0 102),
  (102, oGetI (fun k => k = 11) 16 105),
  (105, oIf (fun x => ¬ x = 0) 159 108),
  (108, oLdA 0 109),
  (109, oGetF (fun k => k = 11) 6 112),
  (112, oPush (.int 102) 114),
  (114, oPush (.int 2) 115),
  (115, oLdA 0 116),
  (116, oGetF (fun k => k = 11) 6 119),
  (119, oPush (.int 3) 120),
  (120, oALdI 121),
  (121, oII (fun x y => x * y) 122),
  (122, oII (fun x y => x + y) 123),
  (123, oLdI 1 124),
  (124, oPush (.int 8) 126),
  (126, oLdI 2 127),
  (127, oII (fun x y => x * y) 128),
  (128, oII (fun x y => x + y) 129)]
theorem ok154_1 : ∀ q ∈ pg154_1, Sim mT mt154 q.1 q.2 ∧ Grow q.2 :=
  List.forall_mem_cons.mpr ⟨⟨sim_iadd d154_66, gr_II (fun x y => x + y) 67⟩,
  List.forall_mem_cons.mpr ⟨⟨sim_iaload d154_67, gr_ALdI 68⟩,
  List.forall_mem_cons.mpr ⟨⟨sim_iconst d154_68 (by decide), gr_Push (.int 1) 69⟩,
  List.forall_mem_cons.mpr ⟨⟨sim_icmp_ne d154_69 (by decide), gr_Ic (fun x y => ¬ x = y) 77 72⟩,
  List.forall_mem_cons.mpr ⟨⟨sim_aload_n d154_72 rfl, gr_LdA 0 73⟩,
  List.forall_mem_cons.mpr ⟨⟨sim_iconst d154_73 (by decide), gr_Push (.int 2) 74⟩,
  List.forall_mem_cons.mpr ⟨⟨sim_virtual d154_74 vk102, gr_CalV (fun k => if k = 11 then some 144 else none) 1 77⟩,
  List.forall_mem_cons.mpr ⟨⟨sim_aload_n d154_77 rfl, gr_LdA 0 78⟩,
  List.forall_mem_cons.mpr ⟨⟨sim_iconst d154_78 (by decide), gr_Push (.int 0) 79⟩,
  List.forall_mem_cons.mpr ⟨⟨sim_aload_n d154_79 rfl, gr_LdA 0 80⟩,
  List.forall_mem_cons.mpr ⟨⟨sim_getF d154_80 gf168, gr_GetF (fun k => k = 11) 6 83⟩,
  List.forall_mem_cons.mpr ⟨⟨sim_iconst d154_83 (by decide), gr_Push (.int 1) 84⟩,
  List.forall_mem_cons.mpr ⟨⟨sim_iaload d154_84, gr_ALdI 85⟩,
  List.forall_mem_cons.mpr ⟨⟨sim_virtual d154_85 vk108, gr_CalV (fun k => if k = 11 then some 148 else none) 2 88⟩,
  List.forall_mem_cons.mpr ⟨⟨sim_istore_n d154_88 rfl (by decide), gr_StI 2 89⟩,
  List.forall_mem_cons.mpr ⟨⟨sim_aload_n d154_89 rfl, gr_LdA 0 90⟩,
  List.forall_mem_cons.mpr ⟨⟨sim_iconst d154_90 (by decide), gr_Push (.int 0) 91⟩,
  List.forall_mem_cons.mpr ⟨⟨sim_bipush d154_91 (by decide), gr_Push (.int 12) 93⟩,
  List.forall_mem_cons.mpr ⟨⟨sim_virtual d154_93 vk108, gr_CalV (fun k => if k = 11 then some 148 else none) 2 96⟩,
  List.forall_mem_cons.mpr ⟨⟨sim_istore_n d154_96 rfl (by decide), gr_StI 3 97⟩,
  List.forall_mem_cons.mpr ⟨⟨sim_aload_n d154_97 rfl, gr_LdA 0 98⟩,
  List.forall_mem_cons.mpr ⟨⟨sim_virtual d154_98 vk107, gr_CalV (fun k => if k = 11 then some 149 else none) 0 101⟩,
  List.forall_mem_cons.mpr ⟨⟨sim_aload_n d154_101 rfl, gr_LdA 0 102⟩,
  List.forall_mem_cons.mpr ⟨⟨sim_getI d154_102 gf166, gr_GetI (fun k => k = 11) 16 105⟩,
  List.forall_mem_cons.mpr ⟨⟨sim_if_ne d154_105 (by decide), gr_If (fun x => ¬ x = 0) 159 108⟩,
  List.forall_mem_cons.mpr ⟨⟨sim_aload_n d154_108 rfl, gr_LdA 0 109⟩,
  List.forall_mem_cons.mpr ⟨⟨sim_getF d154_109 gf168, gr_GetF (fun k => k = 11) 6 112⟩,
  List.forall_mem_cons.mpr ⟨⟨sim_bipush d154_112 (by decide), gr_Push (.int 102) 114⟩,
  List.forall_mem_cons.mpr ⟨⟨sim_iconst d154_114 (by decide), gr_Push (.int 2) 115⟩,
  List.forall_mem_cons.mpr ⟨⟨sim_aload_n d154_115 rfl, gr_LdA 0 116⟩,
  List.forall_mem_cons.mpr ⟨⟨sim_getF d154_116 gf168, gr_GetF (fun k => k = 11) 6 119⟩,
  List.forall_mem_cons.mpr ⟨⟨sim_iconst d154_119 (by decide), gr_Push (.int 3) 120⟩,
  List.forall_mem_cons.mpr ⟨⟨sim_iaload d154_120, gr_ALdI 121⟩,
  List.forall_mem_cons.mpr ⟨⟨sim_imul d154_121, gr_II (fun x y => x * y) 122⟩,
  List.forall_mem_cons.mpr ⟨⟨sim_iadd d154_122, gr_II (fun x y => x + y) 123⟩,
  List.forall_mem_cons.mpr ⟨⟨sim_iload_n d154_123 rfl, gr_LdI 1 124⟩,
  List.forall_mem_cons.mpr ⟨⟨sim_bipush d154_124 (by decide), gr_Push (.int 8) 126⟩,
  List.forall_mem_cons.mpr ⟨⟨sim_iload_n d154_126 rfl, gr_LdI 2 127⟩,
  List.forall_mem_cons.mpr ⟨⟨sim_imul d154_127, gr_II (fun x y => x * y) 128⟩,
  List.forall_mem_cons.mpr ⟨⟨sim_iadd d154_128, gr_II (fun x y => x + y) 129⟩, fun _ h => absurd h List.not_mem_nil⟩⟩⟩⟩⟩⟩⟩⟩⟩⟩⟩⟩⟩⟩⟩⟩⟩⟩⟩⟩⟩⟩⟩⟩⟩⟩⟩⟩⟩⟩⟩⟩⟩⟩⟩⟩⟩⟩⟩⟩
noncomputable def pg154_2 : List (Nat × aP) := [(129, oAStI 130),
  (130, oLdA 0 131),
  (131, oGetF (fun k => k = 11) 6 134),
  (134, oPush (.int 102) 136),
  (136, oPush (.int 2) 137),
  (137, oLdA 0 138),
  (138, oGetF (fun k => k = 11) 6 141),
  (141, oPush (.int 3) 142),
  (142, oALdI 143),
  (143, oII (fun x y => x * y) 144),
  (144, oII (fun x y => x + y) 145),
  (145, oPush (.int 1) 146),
  (146, oII (fun x y => x + y) 147),
  (147, oLdI 3 148),
  (148, oAStI 149),
  (149, oLdA 0 150),
  (150, oGetF (fun k => k = 11) 6 153),
  (153, oPush (.int 3) 154),
  (154, oDup2 155),
  (155, oALdI 156),
  (156, oPush (.int 1) 157),
  (157, oII (fun x y => x + y) 158),
  (158, oAStI 159),
  (159, oRetV)]
theorem ok154_2 : ∀ q ∈ pg154_2, Sim mT mt154 q.1 q.2 ∧ Grow q.2 :=
  List.forall_mem_cons.mpr ⟨⟨sim_iastore d154_129, gr_AStI 130⟩,
  List.forall_mem_cons.mpr ⟨⟨sim_aload_n d154_130 rfl, gr_LdA 0 131⟩,
  List.forall_mem_cons.mpr ⟨⟨sim_getF d154_131 gf168, gr_GetF (fun k => k = 11) 6 134⟩,
  List.forall_mem_cons.mpr ⟨⟨sim_bipush d154_134 (by decide), gr_Push (.int 102) 136⟩,
  List.forall_mem_cons.mpr ⟨⟨sim_iconst d154_136 (by decide), gr_Push (.int 2) 137⟩,
  List.forall_mem_cons.mpr ⟨⟨sim_aload_n d154_137 rfl, gr_LdA 0 138⟩,
  List.forall_mem_cons.mpr ⟨⟨sim_getF d154_138 gf168, gr_GetF (fun k => k = 11) 6 141⟩,
  List.forall_mem_cons.mpr ⟨⟨sim_iconst d154_141 (by decide), gr_Push (.int 3) 142⟩,
  List.forall_mem_cons.mpr ⟨⟨sim_iaload d154_142, gr_ALdI 143⟩,
  List.forall_mem_cons.mpr ⟨⟨sim_imul d154_143, gr_II (fun x y => x * y) 144⟩,
  List.forall_mem_cons.mpr ⟨⟨sim_iadd d154_144, gr_II (fun x y => x + y) 145⟩,
  List.forall_mem_cons.mpr ⟨⟨sim_iconst d154_145 (by decide), gr_Push (.int 1) 146⟩,
  List.forall_mem_cons.mpr ⟨⟨sim_iadd d154_146, gr_II (fun x y => x + y) 147⟩,
  List.forall_mem_cons.mpr ⟨⟨sim_iload_n d154_147 rfl, gr_LdI 3 148⟩,
  List.forall_mem_cons.mpr ⟨⟨sim_iastore d154_148, gr_AStI 149⟩,
  List.forall_mem_cons.mpr ⟨⟨sim_aload_n d154_149 rfl, gr_LdA 0 150⟩,
  List.forall_mem_cons.mpr ⟨⟨sim_getF d154_150 gf168, gr_GetF (fun k => k = 11) 6 153⟩,
  List.forall_mem_cons.mpr ⟨⟨sim_iconst d154_153 (by decide), gr_Push (.int 3) 154⟩,
  List.forall_mem_cons.mpr ⟨⟨sim_dup2 d154_154, gr_Dup2 155⟩,
  List.forall_mem_cons.mpr ⟨⟨sim_iaload d154_155, gr_ALdI 156⟩,
  List.forall_mem_cons.mpr ⟨⟨sim_iconst d154_156 (by decide), gr_Push (.int 1) 157⟩,
  List.forall_mem_cons.mpr ⟨⟨sim_iadd d154_157, gr_II (fun x y => x + y) 158⟩,
  List.forall_mem_cons.mpr ⟨⟨sim_iastore d154_158, gr_AStI 159⟩,
  List.forall_mem_cons.mpr ⟨⟨sim_return d154_159 rfl, gr_RetV⟩, fun _ h => absurd h List.not_mem_nil⟩⟩⟩⟩⟩⟩⟩⟩⟩⟩⟩⟩⟩⟩⟩⟩⟩⟩⟩⟩⟩⟩⟩⟩
noncomputable def pg154 : List (Nat × aP) := pg154_0 ++ (pg154_1 ++ (pg154_2))
theorem ok154 : ∀ q ∈ pg154, Sim mT mt154 q.1 q.2 ∧ Grow q.2 := List.forall_mem_append.mpr ⟨ok154_0, List.forall_mem_append.mpr ⟨ok154_1, ok154_2⟩⟩
