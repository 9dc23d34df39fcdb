theorem d193_0 : decode mt193.2.1 0 = .ok (.aload_n 0, 1) := by decide +kernel
theorem d193_1 : decode mt193.2.1 1 = .ok (.iconst 0, 1) := by decide +kernel
theorem d193_2 : decode mt193.2.1 2 = .ok (.putfield 74, 3) := by decide +kernel
theorem d193_5 : decode mt193.2.1 5 = .ok (.aload_n 0, 1) := by decide +kernel
theorem d193_6 : decode mt193.2.1 6 = .ok (.iload_n 1, 1) := by decide +kernel
theorem d193_7 : decode mt193.2.1 7 = .ok (.invokevirtual 244, 3) := by decide +kernel
theorem d193_10 : decode mt193.2.1 10 = .ok (.ifCond .eq 15, 3) := by decide +kernel
theorem d193_13 : decode mt193.2.1 13 = .ok (.iload_n 2, 1) := by decide +kernel
theorem d193_14 : decode mt193.2.1 14 = .ok (.i2l, 1) := by decide +kernel
theorem d193_15 : decode mt193.2.1 15 = .ok (.lconst 0, 1) := by decide +kernel
theorem d193_16 : decode mt193.2.1 16 = .ok (.ldc2_w 305, 3) := by decide +kernel
theorem d193_19 : decode mt193.2.1 19 = .ok (.invokestatic 84, 3) := by decide +kernel
theorem d193_22 : decode mt193.2.1 22 = .ok (.ifCond .ne 6, 3) := by decide +kernel
theorem d193_25 : decode mt193.2.1 25 = .ok (.ldc 94, 2) := by decide +kernel
theorem d193_27 : decode mt193.2.1 27 = .ok (.ireturn, 1) := by decide +kernel
theorem d193_28 : decode mt193.2.1 28 = .ok (.aload_n 0, 1) := by decide +kernel
theorem d193_29 : decode mt193.2.1 29 = .ok (.getfield 19, 3) := by decide +kernel
theorem d193_32 : decode mt193.2.1 32 = .ok (.bipush 102, 2) := by decide +kernel
theorem d193_34 : decode mt193.2.1 34 = .ok (.iconst 2, 1) := by decide +kernel
theorem d193_35 : decode mt193.2.1 35 = .ok (.iload_n 1, 1) := by decide +kernel
theorem d193_36 : decode mt193.2.1 36 = .ok (.imul, 1) := by decide +kernel
theorem d193_37 : decode mt193.2.1 37 = .ok (.iadd, 1) := by decide +kernel
theorem d193_38 : decode mt193.2.1 38 = .ok (.iaload, 1) := by decide +kernel
theorem d193_39 : decode mt193.2.1 39 = .ok (.istore_n 3, 1) := by decide +kernel
theorem d193_40 : decode mt193.2.1 40 = .ok (.aload_n 0, 1) := by decide +kernel
theorem d193_41 : decode mt193.2.1 41 = .ok (.getfield 19, 3) := by decide +kernel
theorem d193_44 : decode mt193.2.1 44 = .ok (.bipush 102, 2) := by decide +kernel
theorem d193_46 : decode mt193.2.1 46 = .ok (.iconst 2, 1) := by decide +kernel
theorem d193_47 : decode mt193.2.1 47 = .ok (.iload_n 1, 1) := by decide +kernel
theorem d193_48 : decode mt193.2.1 48 = .ok (.imul, 1) := by decide +kernel
theorem d193_49 : decode mt193.2.1 49 = .ok (.iadd, 1) := by decide +kernel
theorem d193_50 : decode mt193.2.1 50 = .ok (.iconst 1, 1) := by decide +kernel
theorem d193_51 : decode mt193.2.1 51 = .ok (.iadd, 1) := by decide +kernel
theorem d193_52 : decode mt193.2.1 52 = .ok (.iaload, 1) := by decide +kernel
theorem d193_53 : decode mt193.2.1 53 = .ok (.istore 4, 2) := by decide +kernel
theorem d193_55 : decode mt193.2.1 55 = .ok (.aload_n 0, 1) := by decide +kernel
theorem d193_56 : decode mt193.2.1 56 = .ok (.iconst 0, 1) := by decide +kernel
theorem d193_57 : decode mt193.2.1 57 = .ok (.iload_n 3, 1) := by decide +kernel
theorem d193_58 : decode mt193.2.1 58 = .ok (.bipush 12, 2) := by decide +kernel
theorem d193_60 : decode mt193.2.1 60 = .ok (.iload 4, 2) := by decide +kernel
theorem d193_62 : decode mt193.2.1 62 = .ok (.invokevirtual 295, 3) := by decide +kernel
theorem d193_65 : decode mt193.2.1 65 = .ok (.invokestatic 299, 3) := by decide +kernel
theorem d193_68 : decode mt193.2.1 68 = .ok (.istore 5, 2) := by decide +kernel
theorem d193_70 : decode mt193.2.1 70 = .ok (.iload 5, 2) := by decide +kernel
theorem d193_72 : decode mt193.2.1 72 = .ok (.aload_n 0, 1) := by decide +kernel
theorem d193_73 : decode mt193.2.1 73 = .ok (.iconst 0, 1) := by decide +kernel
theorem d193_74 : decode mt193.2.1 74 = .ok (.iload_n 3, 1) := by decide +kernel
theorem d193_75 : decode mt193.2.1 75 = .ok (.bipush 12, 2) := by decide +kernel
theorem d193_77 : decode mt193.2.1 77 = .ok (.iload 4, 2) := by decide +kernel
theorem d193_79 : decode mt193.2.1 79 = .ok (.bipush 100, 2) := by decide +kernel
theorem d193_81 : decode mt193.2.1 81 = .ok (.iload_n 2, 1) := by decide +kernel
theorem d193_82 : decode mt193.2.1 82 = .ok (.isub, 1) := by decide +kernel
theorem d193_83 : decode mt193.2.1 83 = .ok (.imul, 1) := by decide +kernel
theorem d193_84 : decode mt193.2.1 84 = .ok (.bipush 100, 2) := by decide +kernel
theorem d193_86 : decode mt193.2.1 86 = .ok (.idiv, 1) := by decide +kernel
theorem d193_87 : decode mt193.2.1 87 = .ok (.invokevirtual 295, 3) := by decide +kernel
theorem d193_90 : decode mt193.2.1 90 = .ok (.invokestatic 299, 3) := by decide +kernel
theorem d193_93 : decode mt193.2.1 93 = .ok (.isub, 1) := by decide +kernel
theorem d193_94 : decode mt193.2.1 94 = .ok (.ireturn, 1) := by decide +kernel
noncomputable def pg193_0 : List (Nat × aP) := [(0, oLdA 0 1),
  (1, oPush (.int 0) 2),
  (2, oPutI (fun k => k = 11) 0 5),
  (5, oLdA 0 6),
  (6, oLdI 1 7),
  (7, oCalV (fun k => if k = 11 then some 160 else none) 1 10),
  (10, oIf (fun x => x = 0) 25 13),
  (13, oLdI 2 14),
  (14, oIL (fun x => x.toInt64) 15),
  (15, oPush (.long 0) 16),
  (16, oPush (.long 100) 19),
  (19, oCall 131 3 22),
  (22, oIf (fun x => ¬ x = 0) 28 25),
  (25, oPush (.int (-1000001)) 27),
  (27, oRetI),
  (28, oLdA 0 29),
  (29, oGetF (fun k => k = 11) 5 32),
  (32, oPush (.int 102) 34),
  (34, oPush (.int 2) 35),
  (35, oLdI 1 36),
  (36, oII (fun x y => x * y) 37),
  (37, oII (fun x y => x + y) 38),
  (38, oALdI 39),
  (39, oStI 3 40),
  (40, oLdA 0 41),
  (41, oGetF (fun k => k = 11) 5 44),
  (44, oPush (.int 102) 46),
  (46, oPush (.int 2) 47),
  (47, oLdI 1 48),
  (48, oII (fun x y => x * y) 49),
  (49, oII (fun x y => x + y) 50),
  (50, oPush (.int 1) 51),
  (51, oII (fun x y => x + y) 52),
  (52, oALdI 53),
  (53, oStI 4 55),
  (55, oLdA 0 56),
  (56, oPush (.int 0) 57),
  (57, oLdI 3 58),
  (58, oPush (.int 12) 60),
  (60, oLdI 4 62)]
theorem ok193_0 : ∀ q ∈ pg193_0, Sim mT mt193 q.1 q.2 ∧ Grow q.2 :=
  List.forall_mem_cons.mpr ⟨⟨sim_aload_n d193_0 rfl, gr_LdA 0 1⟩,
  List.forall_mem_cons.mpr ⟨⟨sim_iconst d193_1 (by decide), gr_Push (.int 0) 2⟩,
  List.forall_mem_cons.mpr ⟨⟨sim_putI d193_2 gf155w, gr_PutI (fun k => k = 11) 0 5⟩,
  List.forall_mem_cons.mpr ⟨⟨sim_aload_n d193_5 rfl, gr_LdA 0 6⟩,
  List.forall_mem_cons.mpr ⟨⟨sim_iload_n d193_6 rfl, gr_LdI 1 7⟩,
  List.forall_mem_cons.mpr ⟨⟨sim_virtual d193_7 vk123, gr_CalV (fun k => if k = 11 then some 160 else none) 1 10⟩,
  List.forall_mem_cons.mpr ⟨⟨sim_if_eq d193_10 (by decide), gr_If (fun x => x = 0) 25 13⟩,
  List.forall_mem_cons.mpr ⟨⟨sim_iload_n d193_13 rfl, gr_LdI 2 14⟩,
  List.forall_mem_cons.mpr ⟨⟨sim_i2l d193_14, gr_IL (fun x => x.toInt64) 15⟩,
  List.forall_mem_cons.mpr ⟨⟨sim_lconst d193_15 (by decide), gr_Push (.long 0) 16⟩,
  List.forall_mem_cons.mpr ⟨⟨sim_ldc2 d193_16 kw1292, gr_Push (.long 100) 19⟩,
  List.forall_mem_cons.mpr ⟨⟨sim_static (y := 131) d193_19 (Or.inl kw1038) kw1039 mo131, gr_Call 131 3 22⟩,
  List.forall_mem_cons.mpr ⟨⟨sim_if_ne d193_22 (by decide), gr_If (fun x => ¬ x = 0) 28 25⟩,
  List.forall_mem_cons.mpr ⟨⟨sim_ldc d193_25 kw1042, gr_Push (.int (-1000001)) 27⟩,
  List.forall_mem_cons.mpr ⟨⟨sim_ireturn d193_27 rfl, gr_RetI⟩,
  List.forall_mem_cons.mpr ⟨⟨sim_aload_n d193_28 rfl, gr_LdA 0 29⟩,
  List.forall_mem_cons.mpr ⟨⟨sim_getF d193_29 gf171, gr_GetF (fun k => k = 11) 5 32⟩,
  List.forall_mem_cons.mpr ⟨⟨sim_bipush d193_32 (by decide), gr_Push (.int 102) 34⟩,
  List.forall_mem_cons.mpr ⟨⟨sim_iconst d193_34 (by decide), gr_Push (.int 2) 35⟩,
  List.forall_mem_cons.mpr ⟨⟨sim_iload_n d193_35 rfl, gr_LdI 1 36⟩,
  List.forall_mem_cons.mpr ⟨⟨sim_imul d193_36, gr_II (fun x y => x * y) 37⟩,
  List.forall_mem_cons.mpr ⟨⟨sim_iadd d193_37, gr_II (fun x y => x + y) 38⟩,
  List.forall_mem_cons.mpr ⟨⟨sim_iaload d193_38, gr_ALdI 39⟩,
  List.forall_mem_cons.mpr ⟨⟨sim_istore_n d193_39 rfl (by decide), gr_StI 3 40⟩,
  List.forall_mem_cons.mpr ⟨⟨sim_aload_n d193_40 rfl, gr_LdA 0 41⟩,
  List.forall_mem_cons.mpr ⟨⟨sim_getF d193_41 gf171, gr_GetF (fun k => k = 11) 5 44⟩,
  List.forall_mem_cons.mpr ⟨⟨sim_bipush d193_44 (by decide), gr_Push (.int 102) 46⟩,
  List.forall_mem_cons.mpr ⟨⟨sim_iconst d193_46 (by decide), gr_Push (.int 2) 47⟩,
  List.forall_mem_cons.mpr ⟨⟨sim_iload_n d193_47 rfl, gr_LdI 1 48⟩,
  List.forall_mem_cons.mpr ⟨⟨sim_imul d193_48, gr_II (fun x y => x * y) 49⟩,
  List.forall_mem_cons.mpr ⟨⟨sim_iadd d193_49, gr_II (fun x y => x + y) 50⟩,
  List.forall_mem_cons.mpr ⟨⟨sim_iconst d193_50 (by decide), gr_Push (.int 1) 51⟩,
  List.forall_mem_cons.mpr ⟨⟨sim_iadd d193_51, gr_II (fun x y => x + y) 52⟩,
  List.forall_mem_cons.mpr ⟨⟨sim_iaload d193_52, gr_ALdI 53⟩,
  List.forall_mem_cons.mpr ⟨⟨sim_istore d193_53 (by decide), gr_StI 4 55⟩,
  List.forall_mem_cons.mpr ⟨⟨sim_aload_n d193_55 rfl, gr_LdA 0 56⟩,
  List.forall_mem_cons.mpr ⟨⟨sim_iconst d193_56 (by decide), gr_Push (.int 0) 57⟩,
  List.forall_mem_cons.mpr ⟨⟨sim_iload_n d193_57 rfl, gr_LdI 3 58⟩,
  List.forall_mem_cons.mpr ⟨⟨sim_bipush d193_58 (by decide), gr_Push (.int 12) 60⟩,
  List.forall_mem_cons.mpr ⟨⟨sim_iload d193_60, gr_LdI 4 62⟩, fun _ h => absurd h List.not_mem_nil⟩⟩⟩⟩⟩⟩⟩⟩⟩⟩⟩⟩⟩⟩⟩⟩⟩⟩⟩⟩⟩⟩⟩⟩⟩⟩⟩⟩⟩⟩⟩⟩⟩⟩⟩⟩⟩⟩⟩⟩
noncomputable def pg193_1 : List (Nat × aP) := [(62, oCalV (fun k => if k = 11 then some 186 else none) 4 65),
  (65, oCall 188 1 68),
  (68, oStI 5 70),
  (70, oLdI 5 72),
  (72, oLdA 0 73),
  (73, oPush (.int 0) 74),
  (74, oLdI 3 75),
  (75, oPush (.int 12) 77),
  (77, oLdI 4 79),
  (79, oPush (.int 100) 81),
  (81, oLdI 2 82),
  (82, oII (fun x y => x - y) 83),
  (83, oII (fun x y => x * y) 84),
  (84, oPush (.int 100) 86),
  (86, oIId (fun x y => x / y) 87),
  (87, oCalV (fun k => if k = 11 then some 186 else none) 4 90),
  (90, oCall 188 1 93),
  (93, oII (fun x y => x - y) 94),
  (94, oRetI)]
theorem ok193_1 : ∀ q ∈ pg193_1, Sim mT mt193 q.1 q.2 ∧ Grow q.2 :=
  List.forall_mem_cons.mpr ⟨⟨sim_virtual d193_62 vk133, gr_CalV (fun k => if k = 11 then some 186 else none) 4 65⟩,
  List.forall_mem_cons.mpr ⟨⟨sim_static (y := 188) d193_65 (Or.inl kw1277) kw1278 mo188, gr_Call 188 1 68⟩,
  List.forall_mem_cons.mpr ⟨⟨sim_istore d193_68 (by decide), gr_StI 5 70⟩,
  List.forall_mem_cons.mpr ⟨⟨sim_iload d193_70, gr_LdI 5 72⟩,
  List.forall_mem_cons.mpr ⟨⟨sim_aload_n d193_72 rfl, gr_LdA 0 73⟩,
  List.forall_mem_cons.mpr ⟨⟨sim_iconst d193_73 (by decide), gr_Push (.int 0) 74⟩,
  List.forall_mem_cons.mpr ⟨⟨sim_iload_n d193_74 rfl, gr_LdI 3 75⟩,
  List.forall_mem_cons.mpr ⟨⟨sim_bipush d193_75 (by decide), gr_Push (.int 12) 77⟩,
  List.forall_mem_cons.mpr ⟨⟨sim_iload d193_77, gr_LdI 4 79⟩,
  List.forall_mem_cons.mpr ⟨⟨sim_bipush d193_79 (by decide), gr_Push (.int 100) 81⟩,
  List.forall_mem_cons.mpr ⟨⟨sim_iload_n d193_81 rfl, gr_LdI 2 82⟩,
  List.forall_mem_cons.mpr ⟨⟨sim_isub d193_82, gr_II (fun x y => x - y) 83⟩,
  List.forall_mem_cons.mpr ⟨⟨sim_imul d193_83, gr_II (fun x y => x * y) 84⟩,
  List.forall_mem_cons.mpr ⟨⟨sim_bipush d193_84 (by decide), gr_Push (.int 100) 86⟩,
  List.forall_mem_cons.mpr ⟨⟨sim_idiv d193_86, gr_IId (fun x y => x / y) 87⟩,
  List.forall_mem_cons.mpr ⟨⟨sim_virtual d193_87 vk133, gr_CalV (fun k => if k = 11 then some 186 else none) 4 90⟩,
  List.forall_mem_cons.mpr ⟨⟨sim_static (y := 188) d193_90 (Or.inl kw1277) kw1278 mo188, gr_Call 188 1 93⟩,
  List.forall_mem_cons.mpr ⟨⟨sim_isub d193_93, gr_II (fun x y => x - y) 94⟩,
  List.forall_mem_cons.mpr ⟨⟨sim_ireturn d193_94 rfl, gr_RetI⟩, fun _ h => absurd h List.not_mem_nil⟩⟩⟩⟩⟩⟩⟩⟩⟩⟩⟩⟩⟩⟩⟩⟩⟩⟩⟩
noncomputable def pg193 : List (Nat × aP) := pg193_0 ++ (pg193_1)
theorem ok193 : ∀ q ∈ pg193, Sim mT mt193 q.1 q.2 ∧ Grow q.2 := List.forall_mem_append.mpr ⟨ok193_0, ok193_1⟩
theorem d194_0 : decode mt194.2.1 0 = .ok (.iconst 1, 1) := by decide +kernel
theorem d194_1 : decode mt194.2.1 1 = .ok (.istore 4, 2) := by decide +kernel
theorem d194_3 : decode mt194.2.1 3 = .ok (.iconst 0, 1) := by decide +kernel
theorem d194_4 : decode mt194.2.1 4 = .ok (.istore 5, 2) := by decide +kernel
theorem d194_6 : decode mt194.2.1 6 = .ok (.iload 5, 2) := by decide +kernel
theorem d194_8 : decode mt194.2.1 8 = .ok (.iload_n 2, 1) := by decide +kernel
theorem d194_9 : decode mt194.2.1 9 = .ok (.if_icmp .ge 38, 3) := by decide +kernel
theorem d194_12 : decode mt194.2.1 12 = .ok (.iload 4, 2) := by decide +kernel
theorem d194_14 : decode mt194.2.1 14 = .ok (.ifCond .eq 24, 3) := by decide +kernel
theorem d194_17 : decode mt194.2.1 17 = .ok (.aload_n 0, 1) := by decide +kernel
theorem d194_18 : decode mt194.2.1 18 = .ok (.iconst 0, 1) := by decide +kernel
theorem d194_19 : decode mt194.2.1 19 = .ok (.aload_n 0, 1) := by decide +kernel
theorem d194_20 : decode mt194.2.1 20 = .ok (.getfield 16, 3) := by decide +kernel
theorem d194_23 : decode mt194.2.1 23 = .ok (.iload_n 1, 1) := by decide +kernel
theorem d194_24 : decode mt194.2.1 24 = .ok (.iload 5, 2) := by decide +kernel
theorem d194_26 : decode mt194.2.1 26 = .ok (.iadd, 1) := by decide +kernel
theorem d194_27 : decode mt194.2.1 27 = .ok (.iaload, 1) := by decide +kernel
theorem d194_28 : decode mt194.2.1 28 = .ok (.invokevirtual 276, 3) := by decide +kernel
theorem d194_31 : decode mt194.2.1 31 = .ok (.ifCond .eq 7, 3) := by decide +kernel
theorem d194_34 : decode mt194.2.1 34 = .ok (.iconst 1, 1) := by decide +kernel
theorem d194_35 : decode mt194.2.1 35 = .ok (.goto 4, 3) := by decide +kernel
theorem d194_38 : decode mt194.2.1 38 = .ok (.iconst 0, 1) := by decide +kernel
theorem d194_39 : decode mt194.2.1 39 = .ok (.istore 4, 2) := by decide +kernel
theorem d194_41 : decode mt194.2.1 41 = .ok (.iinc 5 1, 3) := by decide +kernel
theorem d194_44 : decode mt194.2.1 44 = .ok (.goto (-38), 3) := by decide +kernel
theorem d194_47 : decode mt194.2.1 47 = .ok (.iconst 0, 1) := by decide +kernel
theorem d194_48 : decode mt194.2.1 48 = .ok (.istore 5, 2) := by decide +kernel
theorem d194_50 : decode mt194.2.1 50 = .ok (.iload 5, 2) := by decide +kernel
theorem d194_52 : decode mt194.2.1 52 = .ok (.iload_n 3, 1) := by decide +kernel
theorem d194_53 : decode mt194.2.1 53 = .ok (.if_icmp .ge 44, 3) := by decide +kernel
theorem d194_56 : decode mt194.2.1 56 = .ok (.iload 4, 2) := by decide +kernel
theorem d194_58 : decode mt194.2.1 58 = .ok (.ifCond .eq 30, 3) := by decide +kernel
theorem d194_61 : decode mt194.2.1 61 = .ok (.aload_n 0, 1) := by decide +kernel
theorem d194_62 : decode mt194.2.1 62 = .ok (.getfield 270, 3) := by decide +kernel
theorem d194_65 : decode mt194.2.1 65 = .ok (.aload_n 0, 1) := by decide +kernel
theorem d194_66 : decode mt194.2.1 66 = .ok (.getfield 16, 3) := by decide +kernel
theorem d194_69 : decode mt194.2.1 69 = .ok (.iload_n 1, 1) := by decide +kernel
theorem d194_70 : decode mt194.2.1 70 = .ok (.iload_n 2, 1) := by decide +kernel
theorem d194_71 : decode mt194.2.1 71 = .ok (.iadd, 1) := by decide +kernel
theorem d194_72 : decode mt194.2.1 72 = .ok (.iload 5, 2) := by decide +kernel
theorem d194_74 : decode mt194.2.1 74 = .ok (.iadd, 1) := by decide +kernel
theorem d194_75 : decode mt194.2.1 75 = .ok (.iaload, 1) := by decide +kernel
theorem d194_76 : decode mt194.2.1 76 = .ok (.lshr, 1) := by decide +kernel
theorem d194_77 : decode mt194.2.1 77 = .ok (.lconst 1, 1) := by decide +kernel
theorem d194_78 : decode mt194.2.1 78 = .ok (.land, 1) := by decide +kernel
theorem d194_79 : decode mt194.2.1 79 = .ok (.lconst 1, 1) := by decide +kernel
theorem d194_80 : decode mt194.2.1 80 = .ok (.lcmp, 1) := by decide +kernel
theorem d194_81 : decode mt194.2.1 81 = .ok (.ifCond .ne 7, 3) := by decide +kernel
theorem d194_84 : decode mt194.2.1 84 = .ok (.iconst 1, 1) := by decide +kernel
theorem d194_85 : decode mt194.2.1 85 = .ok (.goto 4, 3) := by decide +kernel
theorem d194_88 : decode mt194.2.1 88 = .ok (.iconst 0, 1) := by decide +kernel
theorem d194_89 : decode mt194.2.1 89 = .ok (.istore 4, 2) := by decide +kernel
theorem d194_91 : decode mt194.2.1 91 = .ok (.iinc 5 1, 3) := by decide +kernel
theorem d194_94 : decode mt194.2.1 94 = .ok (.goto (-44), 3) := by decide +kernel
theorem d194_97 : decode mt194.2.1 97 = .ok (.iload 4, 2) := by decide +kernel
theorem d194_99 : decode mt194.2.1 99 = .ok (.ireturn, 1) := by decide +kernel
noncomputable def pg194_0 : List (Nat × aP) := [(0, oPush (.int 1) 1),
  (1, oStI 4 3),
  (3, oPush (.int 0) 4),
  (4, oStI 5 6),
  (6, oLdI 5 8),
  (8, oLdI 2 9),
  (9, oIc (fun x y => y ≤ x) 47 12),
  (12, oLdI 4 14),
  (14, oIf (fun x => x = 0) 38 17),
  (17, oLdA 0 18),
  (18, oPush (.int 0) 19),
  (19, oLdA 0 20),
  (20, oGetF (fun k => k = 11) 4 23),
  (23, oLdI 1 24),
  (24, oLdI 5 26),
  (26, oII (fun x y => x + y) 27),
  (27, oALdI 28),
  (28, oCalV (fun k => if k = 11 then some 183 else none) 2 31),
  (31, oIf (fun x => x = 0) 38 34),
  (34, oPush (.int 1) 35),
  (35, oGo 39),
  (38, oPush (.int 0) 39),
  (39, oStI 4 41),
  (41, oInc 5 1 44),
  (44, oGo 6),
  (47, oPush (.int 0) 48),
  (48, oStI 5 50),
  (50, oLdI 5 52),
  (52, oLdI 3 53),
  (53, oIc (fun x y => y ≤ x) 97 56),
  (56, oLdI 4 58),
  (58, oIf (fun x => x = 0) 88 61),
  (61, oLdA 0 62),
  (62, oGetL (fun k => k = 11) 29 65),
  (65, oLdA 0 66),
  (66, oGetF (fun k => k = 11) 4 69),
  (69, oLdI 1 70),
  (70, oLdI 2 71),
  (71, oII (fun x y => x + y) 72),
  (72, oLdI 5 74)]
theorem ok194_0 : ∀ q ∈ pg194_0, Sim mT mt194 q.1 q.2 ∧ Grow q.2 :=
  List.forall_mem_cons.mpr ⟨⟨sim_iconst d194_0 (by decide), gr_Push (.int 1) 1⟩,
  List.forall_mem_cons.mpr ⟨⟨sim_istore d194_1 (by decide), gr_StI 4 3⟩,
  List.forall_mem_cons.mpr ⟨⟨sim_iconst d194_3 (by decide), gr_Push (.int 0) 4⟩,
  List.forall_mem_cons.mpr ⟨⟨sim_istore d194_4 (by decide), gr_StI 5 6⟩,
  List.forall_mem_cons.mpr ⟨⟨sim_iload d194_6, gr_LdI 5 8⟩,
  List.forall_mem_cons.mpr ⟨⟨sim_iload_n d194_8 rfl, gr_LdI 2 9⟩,
  List.forall_mem_cons.mpr ⟨⟨sim_icmp_ge d194_9 (by decide), gr_Ic (fun x y => y ≤ x) 47 12⟩,
  List.forall_mem_cons.mpr ⟨⟨sim_iload d194_12, gr_LdI 4 14⟩,
  List.forall_mem_cons.mpr ⟨⟨sim_if_eq d194_14 (by decide), gr_If (fun x => x = 0) 38 17⟩,
  List.forall_mem_cons.mpr ⟨⟨sim_aload_n d194_17 rfl, gr_LdA 0 18⟩,
  List.forall_mem_cons.mpr ⟨⟨sim_iconst d194_18 (by decide), gr_Push (.int 0) 19⟩,
  List.forall_mem_cons.mpr ⟨⟨sim_aload_n d194_19 rfl, gr_LdA 0 20⟩,
  List.forall_mem_cons.mpr ⟨⟨sim_getF d194_20 gf158, gr_GetF (fun k => k = 11) 4 23⟩,
  List.forall_mem_cons.mpr ⟨⟨sim_iload_n d194_23 rfl, gr_LdI 1 24⟩,
  List.forall_mem_cons.mpr ⟨⟨sim_iload d194_24, gr_LdI 5 26⟩,
  List.forall_mem_cons.mpr ⟨⟨sim_iadd d194_26, gr_II (fun x y => x + y) 27⟩,
  List.forall_mem_cons.mpr ⟨⟨sim_iaload d194_27, gr_ALdI 28⟩,
  List.forall_mem_cons.mpr ⟨⟨sim_virtual d194_28 vk130, gr_CalV (fun k => if k = 11 then some 183 else none) 2 31⟩,
  List.forall_mem_cons.mpr ⟨⟨sim_if_eq d194_31 (by decide), gr_If (fun x => x = 0) 38 34⟩,
  List.forall_mem_cons.mpr ⟨⟨sim_iconst d194_34 (by decide), gr_Push (.int 1) 35⟩,
  List.forall_mem_cons.mpr ⟨⟨sim_goto d194_35 (by decide), gr_Go 39⟩,
  List.forall_mem_cons.mpr ⟨⟨sim_iconst d194_38 (by decide), gr_Push (.int 0) 39⟩,
  List.forall_mem_cons.mpr ⟨⟨sim_istore d194_39 (by decide), gr_StI 4 41⟩,
  List.forall_mem_cons.mpr ⟨⟨sim_iinc d194_41 (by decide) (by decide), gr_Inc 5 1 44⟩,
  List.forall_mem_cons.mpr ⟨⟨sim_goto d194_44 (by decide), gr_Go 6⟩,
  List.forall_mem_cons.mpr ⟨⟨sim_iconst d194_47 (by decide), gr_Push (.int 0) 48⟩,
  List.forall_mem_cons.mpr ⟨⟨sim_istore d194_48 (by decide), gr_StI 5 50⟩,
  List.forall_mem_cons.mpr ⟨⟨sim_iload d194_50, gr_LdI 5 52⟩,
  List.forall_mem_cons.mpr ⟨⟨sim_iload_n d194_52 rfl, gr_LdI 3 53⟩,
  List.forall_mem_cons.mpr ⟨⟨sim_icmp_ge d194_53 (by decide), gr_Ic (fun x y => y ≤ x) 97 56⟩,
  List.forall_mem_cons.mpr ⟨⟨sim_iload d194_56, gr_LdI 4 58⟩,
  List.forall_mem_cons.mpr ⟨⟨sim_if_eq d194_58 (by decide), gr_If (fun x => x = 0) 88 61⟩,
  List.forall_mem_cons.mpr ⟨⟨sim_aload_n d194_61 rfl, gr_LdA 0 62⟩,
  List.forall_mem_cons.mpr ⟨⟨sim_getL d194_62 gf182, gr_GetL (fun k => k = 11) 29 65⟩,
  List.forall_mem_cons.mpr ⟨⟨sim_aload_n d194_65 rfl, gr_LdA 0 66⟩,
  List.forall_mem_cons.mpr ⟨⟨sim_getF d194_66 gf158, gr_GetF (fun k => k = 11) 4 69⟩,
  List.forall_mem_cons.mpr ⟨⟨sim_iload_n d194_69 rfl, gr_LdI 1 70⟩,
  List.forall_mem_cons.mpr ⟨⟨sim_iload_n d194_70 rfl, gr_LdI 2 71⟩,
  List.forall_mem_cons.mpr ⟨⟨sim_iadd d194_71, gr_II (fun x y => x + y) 72⟩,
  List.forall_mem_cons.mpr ⟨⟨sim_iload d194_72, gr_LdI 5 74⟩, fun _ h => absurd h List.not_mem_nil⟩⟩⟩⟩⟩⟩⟩⟩⟩⟩⟩⟩⟩⟩⟩⟩⟩⟩⟩⟩⟩⟩⟩⟩⟩⟩⟩⟩⟩⟩⟩⟩⟩⟩⟩⟩⟩⟩⟩⟩
noncomputable def pg194_1 : List (Nat × aP) := [(74, oII (fun x y => x + y) 75),
  (75, oALdI 76),
  (76, oLSh (fun x y => x >>> (y.toInt64 &&& 63)) 77),
  (77, oPush (.long 1) 78),
  (78, oLL (fun x y => x &&& y) 79),
  (79, oPush (.long 1) 80),
  (80, oLcmp 81),
  (81, oIf (fun x => ¬ x = 0) 88 84),
  (84, oPush (.int 1) 85),
  (85, oGo 89),
  (88, oPush (.int 0) 89),
  (89, oStI 4 91),
  (91, oInc 5 1 94),
  (94, oGo 50),
  (97, oLdI 4 99),
  (99, oRetN .boolean)]
theorem ok194_1 : ∀ q ∈ pg194_1, Sim mT mt194 q.1 q.2 ∧ Grow q.2 :=
  List.forall_mem_cons.mpr ⟨⟨sim_iadd d194_74, gr_II (fun x y => x + y) 75⟩,
  List.forall_mem_cons.mpr ⟨⟨sim_iaload d194_75, gr_ALdI 76⟩,
  List.forall_mem_cons.mpr ⟨⟨sim_lshr d194_76, gr_LSh (fun x y => x >>> (y.toInt64 &&& 63)) 77⟩,
  List.forall_mem_cons.mpr ⟨⟨sim_lconst d194_77 (by decide), gr_Push (.long 1) 78⟩,
  List.forall_mem_cons.mpr ⟨⟨sim_land d194_78, gr_LL (fun x y => x &&& y) 79⟩,
  List.forall_mem_cons.mpr ⟨⟨sim_lconst d194_79 (by decide), gr_Push (.long 1) 80⟩,
  List.forall_mem_cons.mpr ⟨⟨sim_lcmp d194_80, gr_Lcmp 81⟩,
  List.forall_mem_cons.mpr ⟨⟨sim_if_ne d194_81 (by decide), gr_If (fun x => ¬ x = 0) 88 84⟩,
  List.forall_mem_cons.mpr ⟨⟨sim_iconst d194_84 (by decide), gr_Push (.int 1) 85⟩,
  List.forall_mem_cons.mpr ⟨⟨sim_goto d194_85 (by decide), gr_Go 89⟩,
  List.forall_mem_cons.mpr ⟨⟨sim_iconst d194_88 (by decide), gr_Push (.int 0) 89⟩,
  List.forall_mem_cons.mpr ⟨⟨sim_istore d194_89 (by decide), gr_StI 4 91⟩,
  List.forall_mem_cons.mpr ⟨⟨sim_iinc d194_91 (by decide) (by decide), gr_Inc 5 1 94⟩,
  List.forall_mem_cons.mpr ⟨⟨sim_goto d194_94 (by decide), gr_Go 50⟩,
  List.forall_mem_cons.mpr ⟨⟨sim_iload d194_97, gr_LdI 4 99⟩,
  List.forall_mem_cons.mpr ⟨⟨sim_nreturn d194_99 rfl (fun _ h => congrArg Value.int h), gr_RetN .boolean⟩, fun _ h => absurd h List.not_mem_nil⟩⟩⟩⟩⟩⟩⟩⟩⟩⟩⟩⟩⟩⟩⟩⟩
noncomputable def pg194 : List (Nat × aP) := pg194_0 ++ (pg194_1)
theorem ok194 : ∀ q ∈ pg194, Sim mT mt194 q.1 q.2 ∧ Grow q.2 := List.forall_mem_append.mpr ⟨ok194_0, ok194_1⟩
theorem d195_0 : decode mt195.2.1 0 = .ok (.aload_n 0, 1) := by decide +kernel
theorem d195_1 : decode mt195.2.1 1 = .ok (.iconst 0, 1) := by decide +kernel
theorem d195_2 : decode mt195.2.1 2 = .ok (.putfield 74, 3) := by decide +kernel
theorem d195_5 : decode mt195.2.1 5 = .ok (.aload_n 0, 1) := by decide +kernel
theorem d195_6 : decode mt195.2.1 6 = .ok (.iload_n 1, 1) := by decide +kernel
theorem d195_7 : decode mt195.2.1 7 = .ok (.invokevirtual 244, 3) := by decide +kernel
theorem d195_10 : decode mt195.2.1 10 = .ok (.ifCond .eq 35, 3) := by decide +kernel
theorem d195_13 : decode mt195.2.1 13 = .ok (.iload_n 2, 1) := by decide +kernel
theorem d195_14 : decode mt195.2.1 14 = .ok (.invokestatic 88, 3) := by decide +kernel
theorem d195_17 : decode mt195.2.1 17 = .ok (.ifCond .eq 28, 3) := by decide +kernel
theorem d195_20 : decode mt195.2.1 20 = .ok (.iload_n 3, 1) := by decide +kernel
theorem d195_21 : decode mt195.2.1 21 = .ok (.i2l, 1) := by decide +kernel
theorem d195_22 : decode mt195.2.1 22 = .ok (.lconst 0, 1) := by decide +kernel
theorem d195_23 : decode mt195.2.1 23 = .ok (.ldc2_w 307, 3) := by decide +kernel
theorem d195_26 : decode mt195.2.1 26 = .ok (.invokestatic 84, 3) := by decide +kernel
theorem d195_29 : decode mt195.2.1 29 = .ok (.ifCond .eq 16, 3) := by decide +kernel
theorem d195_32 : decode mt195.2.1 32 = .ok (.iload 4, 2) := by decide +kernel
theorem d195_34 : decode mt195.2.1 34 = .ok (.i2l, 1) := by decide +kernel
theorem d195_35 : decode mt195.2.1 35 = .ok (.lconst 0, 1) := by decide +kernel
theorem d195_36 : decode mt195.2.1 36 = .ok (.ldc2_w 307, 3) := by decide +kernel
theorem d195_39 : decode mt195.2.1 39 = .ok (.invokestatic 84, 3) := by decide +kernel
theorem d195_42 : decode mt195.2.1 42 = .ok (.ifCond .ne 6, 3) := by decide +kernel
theorem d195_45 : decode mt195.2.1 45 = .ok (.ldc 94, 2) := by decide +kernel
theorem d195_47 : decode mt195.2.1 47 = .ok (.ireturn, 1) := by decide +kernel
theorem d195_48 : decode mt195.2.1 48 = .ok (.aload_n 0, 1) := by decide +kernel
theorem d195_49 : decode mt195.2.1 49 = .ok (.iload_n 2, 1) := by decide +kernel
theorem d195_50 : decode mt195.2.1 50 = .ok (.iconst 0, 1) := by decide +kernel
theorem d195_51 : decode mt195.2.1 51 = .ok (.iload_n 3, 1) := by decide +kernel
theorem d195_52 : decode mt195.2.1 52 = .ok (.iload 4, 2) := by decide +kernel
theorem d195_54 : decode mt195.2.1 54 = .ok (.iadd, 1) := by decide +kernel
theorem d195_55 : decode mt195.2.1 55 = .ok (.invokevirtual 238, 3) := by decide +kernel
theorem d195_58 : decode mt195.2.1 58 = .ok (.istore 5, 2) := by decide +kernel
theorem d195_60 : decode mt195.2.1 60 = .ok (.iload 5, 2) := by decide +kernel
theorem d195_62 : decode mt195.2.1 62 = .ok (.ifCond .le 10, 3) := by decide +kernel
theorem d195_65 : decode mt195.2.1 65 = .ok (.aload_n 0, 1) := by decide +kernel
theorem d195_66 : decode mt195.2.1 66 = .ok (.iload 5, 2) := by decide +kernel
theorem d195_68 : decode mt195.2.1 68 = .ok (.invokevirtual 95, 3) := by decide +kernel
theorem d195_71 : decode mt195.2.1 71 = .ok (.ireturn, 1) := by decide +kernel
theorem d195_72 : decode mt195.2.1 72 = .ok (.iconst 0, 1) := by decide +kernel
theorem d195_73 : decode mt195.2.1 73 = .ok (.istore 6, 2) := by decide +kernel
theorem d195_75 : decode mt195.2.1 75 = .ok (.iload 6, 2) := by decide +kernel
theorem d195_77 : decode mt195.2.1 77 = .ok (.iload_n 3, 1) := by decide +kernel
theorem d195_78 : decode mt195.2.1 78 = .ok (.iload 4, 2) := by decide +kernel
theorem d195_80 : decode mt195.2.1 80 = .ok (.iadd, 1) := by decide +kernel
theorem d195_81 : decode mt195.2.1 81 = .ok (.if_icmp .ge 53, 3) := by decide +kernel
theorem d195_84 : decode mt195.2.1 84 = .ok (.aload_n 0, 1) := by decide +kernel
theorem d195_85 : decode mt195.2.1 85 = .ok (.getfield 16, 3) := by decide +kernel
theorem d195_88 : decode mt195.2.1 88 = .ok (.bipush 40, 2) := by decide +kernel
theorem d195_90 : decode mt195.2.1 90 = .ok (.iload_n 2, 1) := by decide +kernel
theorem d195_91 : decode mt195.2.1 91 = .ok (.imul, 1) := by decide +kernel
theorem d195_92 : decode mt195.2.1 92 = .ok (.iload 6, 2) := by decide +kernel
theorem d195_94 : decode mt195.2.1 94 = .ok (.iadd, 1) := by decide +kernel
theorem d195_95 : decode mt195.2.1 95 = .ok (.iaload, 1) := by decide +kernel
theorem d195_96 : decode mt195.2.1 96 = .ok (.istore 7, 2) := by decide +kernel
theorem d195_98 : decode mt195.2.1 98 = .ok (.iload 6, 2) := by decide +kernel
theorem d195_100 : decode mt195.2.1 100 = .ok (.iload_n 3, 1) := by decide +kernel
theorem d195_101 : decode mt195.2.1 101 = .ok (.if_icmp .ge 15, 3) := by decide +kernel
theorem d195_104 : decode mt195.2.1 104 = .ok (.aload_n 0, 1) := by decide +kernel
theorem d195_105 : decode mt195.2.1 105 = .ok (.iload 7, 2) := by decide +kernel
theorem d195_107 : decode mt195.2.1 107 = .ok (.invokevirtual 222, 3) := by decide +kernel
theorem d195_110 : decode mt195.2.1 110 = .ok (.ifCond .ne 18, 3) := by decide +kernel
theorem d195_113 : decode mt195.2.1 113 = .ok (.goto 12, 3) := by decide +kernel
theorem d195_116 : decode mt195.2.1 116 = .ok (.aload_n 0, 1) := by decide +kernel
theorem d195_117 : decode mt195.2.1 117 = .ok (.iload 7, 2) := by decide +kernel
theorem d195_119 : decode mt195.2.1 119 = .ok (.invokevirtual 267, 3) := by decide +kernel
theorem d195_122 : decode mt195.2.1 122 = .ok (.ifCond .ne 6, 3) := by decide +kernel
theorem d195_125 : decode mt195.2.1 125 = .ok (.ldc 94, 2) := by decide +kernel
theorem d195_127 : decode mt195.2.1 127 = .ok (.ireturn, 1) := by decide +kernel
theorem d195_128 : decode mt195.2.1 128 = .ok (.iinc 6 1, 3) := by decide +kernel
theorem d195_131 : decode mt195.2.1 131 = .ok (.goto (-56), 3) := by decide +kernel
theorem d195_134 : decode mt195.2.1 134 = .ok (.aload_n 0, 1) := by decide +kernel
theorem d195_135 : decode mt195.2.1 135 = .ok (.iconst 0, 1) := by decide +kernel
theorem d195_136 : decode mt195.2.1 136 = .ok (.putfield 78, 3) := by decide +kernel
theorem d195_139 : decode mt195.2.1 139 = .ok (.iconst 0, 1) := by decide +kernel
theorem d195_140 : decode mt195.2.1 140 = .ok (.istore 6, 2) := by decide +kernel
theorem d195_142 : decode mt195.2.1 142 = .ok (.aload_n 0, 1) := by decide +kernel
theorem d195_143 : decode mt195.2.1 143 = .ok (.iconst 0, 1) := by decide +kernel
theorem d195_144 : decode mt195.2.1 144 = .ok (.aload_n 0, 1) := by decide +kernel
theorem d195_145 : decode mt195.2.1 145 = .ok (.getfield 19, 3) := by decide +kernel
theorem d195_148 : decode mt195.2.1 148 = .ok (.bipush 102, 2) := by decide +kernel
theorem d195_150 : decode mt195.2.1 150 = .ok (.iconst 2, 1) := by decide +kernel
theorem d195_151 : decode mt195.2.1 151 = .ok (.iload_n 1, 1) := by decide +kernel
theorem d195_152 : decode mt195.2.1 152 = .ok (.imul, 1) := by decide +kernel
theorem d195_153 : decode mt195.2.1 153 = .ok (.iadd, 1) := by decide +kernel
theorem d195_154 : decode mt195.2.1 154 = .ok (.iaload, 1) := by decide +kernel
theorem d195_155 : decode mt195.2.1 155 = .ok (.bipush 10, 2) := by decide +kernel
theorem d195_157 : decode mt195.2.1 157 = .ok (.aload_n 0, 1) := by decide +kernel
theorem d195_158 : decode mt195.2.1 158 = .ok (.getfield 19, 3) := by decide +kernel
theorem d195_161 : decode mt195.2.1 161 = .ok (.bipush 102, 2) := by decide +kernel
theorem d195_163 : decode mt195.2.1 163 = .ok (.iconst 2, 1) := by decide +kernel
theorem d195_164 : decode mt195.2.1 164 = .ok (.iload_n 1, 1) := by decide +kernel
theorem d195_165 : decode mt195.2.1 165 = .ok (.imul, 1) := by decide +kernel
theorem d195_166 : decode mt195.2.1 166 = .ok (.iadd, 1) := by decide +kernel
theorem d195_167 : decode mt195.2.1 167 = .ok (.iconst 1, 1) := by decide +kernel
theorem d195_168 : decode mt195.2.1 168 = .ok (.iadd, 1) := by decide +kernel
theorem d195_169 : decode mt195.2.1 169 = .ok (.iaload, 1) := by decide +kernel
theorem d195_170 : decode mt195.2.1 170 = .ok (.invokevirtual 283, 3) := by decide +kernel
theorem d195_173 : decode mt195.2.1 173 = .ok (.aload_n 0, 1) := by decide +kernel
theorem d195_174 : decode mt195.2.1 174 = .ok (.iconst 0, 1) := by decide +kernel
theorem d195_175 : decode mt195.2.1 175 = .ok (.invokevirtual 287, 3) := by decide +kernel
theorem d195_178 : decode mt195.2.1 178 = .ok (.ifCond .eq 30, 3) := by decide +kernel
theorem d195_181 : decode mt195.2.1 181 = .ok (.iload 6, 2) := by decide +kernel
theorem d195_183 : decode mt195.2.1 183 = .ok (.aload_n 0, 1) := by decide +kernel
theorem d195_184 : decode mt195.2.1 184 = .ok (.bipush 40, 2) := by decide +kernel
theorem d195_186 : decode mt195.2.1 186 = .ok (.iload_n 2, 1) := by decide +kernel
theorem d195_187 : decode mt195.2.1 187 = .ok (.imul, 1) := by decide +kernel
theorem d195_188 : decode mt195.2.1 188 = .ok (.iload_n 3, 1) := by decide +kernel
theorem d195_189 : decode mt195.2.1 189 = .ok (.iload 4, 2) := by decide +kernel
theorem d195_191 : decode mt195.2.1 191 = .ok (.invokevirtual 309, 3) := by decide +kernel
theorem d195_194 : decode mt195.2.1 194 = .ok (.ifCond .eq 7, 3) := by decide +kernel
theorem d195_197 : decode mt195.2.1 197 = .ok (.iconst 1, 1) := by decide +kernel
theorem d195_198 : decode mt195.2.1 198 = .ok (.goto 4, 3) := by decide +kernel
theorem d195_201 : decode mt195.2.1 201 = .ok (.iconst 0, 1) := by decide +kernel
theorem d195_202 : decode mt195.2.1 202 = .ok (.iadd, 1) := by decide +kernel
theorem d195_203 : decode mt195.2.1 203 = .ok (.istore 6, 2) := by decide +kernel
theorem d195_205 : decode mt195.2.1 205 = .ok (.goto (-32), 3) := by decide +kernel
theorem d195_208 : decode mt195.2.1 208 = .ok (.iload 6, 2) := by decide +kernel
theorem d195_210 : decode mt195.2.1 210 = .ok (.ireturn, 1) := by decide +kernel
noncomputable def pg195_0 : List (Nat × aP) := [(0, oLdA 0 1),
  (1, oPush (.int 0) 2),
  (2, oPutI (fun k => k = 11) 0 5),
  (5, oLdA 0 6),
  (6, oLdI 1 7),
  (7, oCalV (fun k => if k = 11 then some 160 else none) 1 10),
  (10, oIf (fun x => x = 0) 45 13),
  (13, oLdI 2 14),
  (14, oCall 133 1 17),
  (17, oIf (fun x => x = 0) 45 20),
  (20, oLdI 3 21),
  (21, oIL (fun x => x.toInt64) 22),
  (22, oPush (.long 0) 23),
  (23, oPush (.long 6) 26),
  (26, oCall 131 3 29),
  (29, oIf (fun x => x = 0) 45 32),
  (32, oLdI 4 34),
  (34, oIL (fun x => x.toInt64) 35),
  (35, oPush (.long 0) 36),
  (36, oPush (.long 6) 39),
  (39, oCall 131 3 42),
  (42, oIf (fun x => ¬ x = 0) 48 45),
  (45, oPush (.int (-1000001)) 47),
  (47, oRetI),
  (48, oLdA 0 49),
  (49, oLdI 2 50),
  (50, oPush (.int 0) 51),
  (51, oLdI 3 52),
  (52, oLdI 4 54),
  (54, oII (fun x y => x + y) 55),
  (55, oCalV (fun k => if k = 11 then some 171 else none) 3 58),
  (58, oStI 5 60),
  (60, oLdI 5 62),
  (62, oIf (fun x => x ≤ 0) 72 65),
  (65, oLdA 0 66),
  (66, oLdI 5 68),
  (68, oCalV (fun k => if k = 11 then some 132 else none) 1 71),
  (71, oRetI),
  (72, oPush (.int 0) 73),
  (73, oStI 6 75)]
theorem ok195_0 : ∀ q ∈ pg195_0, Sim mT mt195 q.1 q.2 ∧ Grow q.2 :=
  List.forall_mem_cons.mpr ⟨⟨sim_aload_n d195_0 rfl, gr_LdA 0 1⟩,
  List.forall_mem_cons.mpr ⟨⟨sim_iconst d195_1 (by decide), gr_Push (.int 0) 2⟩,
  List.forall_mem_cons.mpr ⟨⟨sim_putI d195_2 gf155w, gr_PutI (fun k => k = 11) 0 5⟩,
  List.forall_mem_cons.mpr ⟨⟨sim_aload_n d195_5 rfl, gr_LdA 0 6⟩,
  List.forall_mem_cons.mpr ⟨⟨sim_iload_n d195_6 rfl, gr_LdI 1 7⟩,
  List.forall_mem_cons.mpr ⟨⟨sim_virtual d195_7 vk123, gr_CalV (fun k => if k = 11 then some 160 else none) 1 10⟩,
  List.forall_mem_cons.mpr ⟨⟨sim_if_eq d195_10 (by decide), gr_If (fun x => x = 0) 45 13⟩,
  List.forall_mem_cons.mpr ⟨⟨sim_iload_n d195_13 rfl, gr_LdI 2 14⟩,
  List.forall_mem_cons.mpr ⟨⟨sim_static (y := 133) d195_14 (Or.inl kw1034) kw1035 mo133, gr_Call 133 1 17⟩,
  List.forall_mem_cons.mpr ⟨⟨sim_if_eq d195_17 (by decide), gr_If (fun x => x = 0) 45 20⟩,
  List.forall_mem_cons.mpr ⟨⟨sim_iload_n d195_20 rfl, gr_LdI 3 21⟩,
  List.forall_mem_cons.mpr ⟨⟨sim_i2l d195_21, gr_IL (fun x => x.toInt64) 22⟩,
  List.forall_mem_cons.mpr ⟨⟨sim_lconst d195_22 (by decide), gr_Push (.long 0) 23⟩,
  List.forall_mem_cons.mpr ⟨⟨sim_ldc2 d195_23 kw1297, gr_Push (.long 6) 26⟩,
  List.forall_mem_cons.mpr ⟨⟨sim_static (y := 131) d195_26 (Or.inl kw1038) kw1039 mo131, gr_Call 131 3 29⟩,
  List.forall_mem_cons.mpr ⟨⟨sim_if_eq d195_29 (by decide), gr_If (fun x => x = 0) 45 32⟩,
  List.forall_mem_cons.mpr ⟨⟨sim_iload d195_32, gr_LdI 4 34⟩,
  List.forall_mem_cons.mpr ⟨⟨sim_i2l d195_34, gr_IL (fun x => x.toInt64) 35⟩,
  List.forall_mem_cons.mpr ⟨⟨sim_lconst d195_35 (by decide), gr_Push (.long 0) 36⟩,
  List.forall_mem_cons.mpr ⟨⟨sim_ldc2 d195_36 kw1297, gr_Push (.long 6) 39⟩,
  List.forall_mem_cons.mpr ⟨⟨sim_static (y := 131) d195_39 (Or.inl kw1038) kw1039 mo131, gr_Call 131 3 42⟩,
  List.forall_mem_cons.mpr ⟨⟨sim_if_ne d195_42 (by decide), gr_If (fun x => ¬ x = 0) 48 45⟩,
  List.forall_mem_cons.mpr ⟨⟨sim_ldc d195_45 kw1042, gr_Push (.int (-1000001)) 47⟩,
  List.forall_mem_cons.mpr ⟨⟨sim_ireturn d195_47 rfl, gr_RetI⟩,
  List.forall_mem_cons.mpr ⟨⟨sim_aload_n d195_48 rfl, gr_LdA 0 49⟩,
  List.forall_mem_cons.mpr ⟨⟨sim_iload_n d195_49 rfl, gr_LdI 2 50⟩,
  List.forall_mem_cons.mpr ⟨⟨sim_iconst d195_50 (by decide), gr_Push (.int 0) 51⟩,
  List.forall_mem_cons.mpr ⟨⟨sim_iload_n d195_51 rfl, gr_LdI 3 52⟩,
  List.forall_mem_cons.mpr ⟨⟨sim_iload d195_52, gr_LdI 4 54⟩,
  List.forall_mem_cons.mpr ⟨⟨sim_iadd d195_54, gr_II (fun x y => x + y) 55⟩,
  List.forall_mem_cons.mpr ⟨⟨sim_virtual d195_55 vk122, gr_CalV (fun k => if k = 11 then some 171 else none) 3 58⟩,
  List.forall_mem_cons.mpr ⟨⟨sim_istore d195_58 (by decide), gr_StI 5 60⟩,
  List.forall_mem_cons.mpr ⟨⟨sim_iload d195_60, gr_LdI 5 62⟩,
  List.forall_mem_cons.mpr ⟨⟨sim_if_le d195_62 (by decide), gr_If (fun x => x ≤ 0) 72 65⟩,
  List.forall_mem_cons.mpr ⟨⟨sim_aload_n d195_65 rfl, gr_LdA 0 66⟩,
  List.forall_mem_cons.mpr ⟨⟨sim_iload d195_66, gr_LdI 5 68⟩,
  List.forall_mem_cons.mpr ⟨⟨sim_virtual d195_68 vk99, gr_CalV (fun k => if k = 11 then some 132 else none) 1 71⟩,
  List.forall_mem_cons.mpr ⟨⟨sim_ireturn d195_71 rfl, gr_RetI⟩,
  List.forall_mem_cons.mpr ⟨⟨sim_iconst d195_72 (by decide), gr_Push (.int 0) 73⟩,
  List.forall_mem_cons.mpr ⟨⟨sim_istore d195_73 (by decide), gr_StI 6 75⟩, fun _ h => absurd h List.not_mem_nil⟩⟩⟩⟩⟩⟩⟩⟩⟩⟩⟩⟩⟩⟩⟩⟩⟩⟩⟩⟩⟩⟩⟩⟩⟩⟩⟩⟩⟩⟩⟩⟩⟩⟩⟩⟩⟩⟩⟩⟩
noncomputable def pg195_1 : List (Nat × aP) := [(75, oLdI 6 77),
  (77, oLdI 3 78),
  (78, oLdI 4 80),
  (80, oII (fun x y => x + y) 81),
  (81, oIc (fun x y => y ≤ x) 134 84),
  (84, oLdA 0 85),
  (85, oGetF (fun k => k = 11) 4 88),
  (88, oPush (.int 40) 90),
  (90, oLdI 2 91),
  (91, oII (fun x y => x * y) 92),
  (92, oLdI 6 94),
  (94, oII (fun x y => x + y) 95),
  (95, oALdI 96),
  (96, oStI 7 98),
  (98, oLdI 6 100),
  (100, oLdI 3 101),
  (101, oIc (fun x y => y ≤ x) 116 104),
  (104, oLdA 0 105),
  (105, oLdI 7 107),
  (107, oCalV (fun k => if k = 11 then some 158 else none) 1 110),
  (110, oIf (fun x => ¬ x = 0) 128 113),
  (113, oGo 125),
  (116, oLdA 0 117),
  (117, oLdI 7 119),
  (119, oCalV (fun k => if k = 11 then some 159 else none) 1 122),
  (122, oIf (fun x => ¬ x = 0) 128 125),
  (125, oPush (.int (-1000001)) 127),
  (127, oRetI),
  (128, oInc 6 1 131),
  (131, oGo 75),
  (134, oLdA 0 135),
  (135, oPush (.int 0) 136),
  (136, oPutI (fun k => k = 11) 1 139),
  (139, oPush (.int 0) 140),
  (140, oStI 6 142),
  (142, oLdA 0 143),
  (143, oPush (.int 0) 144),
  (144, oLdA 0 145),
  (145, oGetF (fun k => k = 11) 5 148),
  (148, oPush (.int 102) 150)]
theorem ok195_1 : ∀ q ∈ pg195_1, Sim mT mt195 q.1 q.2 ∧ Grow q.2 :=
  List.forall_mem_cons.mpr ⟨⟨sim_iload d195_75, gr_LdI 6 77⟩,
  List.forall_mem_cons.mpr ⟨⟨sim_iload_n d195_77 rfl, gr_LdI 3 78⟩,
  List.forall_mem_cons.mpr ⟨⟨sim_iload d195_78, gr_LdI 4 80⟩,
  List.forall_mem_cons.mpr ⟨⟨sim_iadd d195_80, gr_II (fun x y => x + y) 81⟩,
  List.forall_mem_cons.mpr ⟨⟨sim_icmp_ge d195_81 (by decide), gr_Ic (fun x y => y ≤ x) 134 84⟩,
  List.forall_mem_cons.mpr ⟨⟨sim_aload_n d195_84 rfl, gr_LdA 0 85⟩,
  List.forall_mem_cons.mpr ⟨⟨sim_getF d195_85 gf158, gr_GetF (fun k => k = 11) 4 88⟩,
  List.forall_mem_cons.mpr ⟨⟨sim_bipush d195_88 (by decide), gr_Push (.int 40) 90⟩,
  List.forall_mem_cons.mpr ⟨⟨sim_iload_n d195_90 rfl, gr_LdI 2 91⟩,
  List.forall_mem_cons.mpr ⟨⟨sim_imul d195_91, gr_II (fun x y => x * y) 92⟩,
  List.forall_mem_cons.mpr ⟨⟨sim_iload d195_92, gr_LdI 6 94⟩,
  List.forall_mem_cons.mpr ⟨⟨sim_iadd d195_94, gr_II (fun x y => x + y) 95⟩,
  List.forall_mem_cons.mpr ⟨⟨sim_iaload d195_95, gr_ALdI 96⟩,
  List.forall_mem_cons.mpr ⟨⟨sim_istore d195_96 (by decide), gr_StI 7 98⟩,
  List.forall_mem_cons.mpr ⟨⟨sim_iload d195_98, gr_LdI 6 100⟩,
  List.forall_mem_cons.mpr ⟨⟨sim_iload_n d195_100 rfl, gr_LdI 3 101⟩,
  List.forall_mem_cons.mpr ⟨⟨sim_icmp_ge d195_101 (by decide), gr_Ic (fun x y => y ≤ x) 116 104⟩,
  List.forall_mem_cons.mpr ⟨⟨sim_aload_n d195_104 rfl, gr_LdA 0 105⟩,
  List.forall_mem_cons.mpr ⟨⟨sim_iload d195_105, gr_LdI 7 107⟩,
  List.forall_mem_cons.mpr ⟨⟨sim_virtual d195_107 vk119, gr_CalV (fun k => if k = 11 then some 158 else none) 1 110⟩,
  List.forall_mem_cons.mpr ⟨⟨sim_if_ne d195_110 (by decide), gr_If (fun x => ¬ x = 0) 128 113⟩,
  List.forall_mem_cons.mpr ⟨⟨sim_goto d195_113 (by decide), gr_Go 125⟩,
  List.forall_mem_cons.mpr ⟨⟨sim_aload_n d195_116 rfl, gr_LdA 0 117⟩,
  List.forall_mem_cons.mpr ⟨⟨sim_iload d195_117, gr_LdI 7 119⟩,
  List.forall_mem_cons.mpr ⟨⟨sim_virtual d195_119 vk128, gr_CalV (fun k => if k = 11 then some 159 else none) 1 122⟩,
  List.forall_mem_cons.mpr ⟨⟨sim_if_ne d195_122 (by decide), gr_If (fun x => ¬ x = 0) 128 125⟩,
  List.forall_mem_cons.mpr ⟨⟨sim_ldc d195_125 kw1042, gr_Push (.int (-1000001)) 127⟩,
  List.forall_mem_cons.mpr ⟨⟨sim_ireturn d195_127 rfl, gr_RetI⟩,
  List.forall_mem_cons.mpr ⟨⟨sim_iinc d195_128 (by decide) (by decide), gr_Inc 6 1 131⟩,
  List.forall_mem_cons.mpr ⟨⟨sim_goto d195_131 (by decide), gr_Go 75⟩,
  List.forall_mem_cons.mpr ⟨⟨sim_aload_n d195_134 rfl, gr_LdA 0 135⟩,
  List.forall_mem_cons.mpr ⟨⟨sim_iconst d195_135 (by decide), gr_Push (.int 0) 136⟩,
  List.forall_mem_cons.mpr ⟨⟨sim_putI d195_136 gf154w, gr_PutI (fun k => k = 11) 1 139⟩,
  List.forall_mem_cons.mpr ⟨⟨sim_iconst d195_139 (by decide), gr_Push (.int 0) 140⟩,
  List.forall_mem_cons.mpr ⟨⟨sim_istore d195_140 (by decide), gr_StI 6 142⟩,
  List.forall_mem_cons.mpr ⟨⟨sim_aload_n d195_142 rfl, gr_LdA 0 143⟩,
  List.forall_mem_cons.mpr ⟨⟨sim_iconst d195_143 (by decide), gr_Push (.int 0) 144⟩,
  List.forall_mem_cons.mpr ⟨⟨sim_aload_n d195_144 rfl, gr_LdA 0 145⟩,
  List.forall_mem_cons.mpr ⟨⟨sim_getF d195_145 gf171, gr_GetF (fun k => k = 11) 5 148⟩,
  List.forall_mem_cons.mpr ⟨⟨sim_bipush d195_148 (by decide), gr_Push (.int 102) 150⟩, fun _ h => absurd h List.not_mem_nil⟩⟩⟩⟩⟩⟩⟩⟩⟩⟩⟩⟩⟩⟩⟩⟩⟩⟩⟩⟩⟩⟩⟩⟩⟩⟩⟩⟩⟩⟩⟩⟩⟩⟩⟩⟩⟩⟩⟩⟩
noncomputable def pg195_2 : List (Nat × aP) := [(150, oPush (.int 2) 151),
  (151, oLdI 1 152),
  (152, oII (fun x y => x * y) 153),
  (153, oII (fun x y => x + y) 154),
  (154, oALdI 155),
  (155, oPush (.int 10) 157),
  (157, oLdA 0 158),
  (158, oGetF (fun k => k = 11) 5 161),
  (161, oPush (.int 102) 163),
  (163, oPush (.int 2) 164),
  (164, oLdI 1 165),
  (165, oII (fun x y => x * y) 166),
  (166, oII (fun x y => x + y) 167),
  (167, oPush (.int 1) 168),
  (168, oII (fun x y => x + y) 169),
  (169, oALdI 170),
  (170, oCalV (fun k => if k = 11 then some 181 else none) 4 173),
  (173, oLdA 0 174),
  (174, oPush (.int 0) 175),
  (175, oCalV (fun k => if k = 11 then some 185 else none) 1 178),
  (178, oIf (fun x => x = 0) 208 181),
  (181, oLdI 6 183),
  (183, oLdA 0 184),
  (184, oPush (.int 40) 186),
  (186, oLdI 2 187),
  (187, oII (fun x y => x * y) 188),
  (188, oLdI 3 189),
  (189, oLdI 4 191),
  (191, oCalV (fun k => if k = 11 then some 194 else none) 3 194),
  (194, oIf (fun x => x = 0) 201 197),
  (197, oPush (.int 1) 198),
  (198, oGo 202),
  (201, oPush (.int 0) 202),
  (202, oII (fun x y => x + y) 203),
  (203, oStI 6 205),
  (205, oGo 173),
  (208, oLdI 6 210),
  (210, oRetI)]
theorem ok195_2 : ∀ q ∈ pg195_2, Sim mT mt195 q.1 q.2 ∧ Grow q.2 :=
  List.forall_mem_cons.mpr ⟨⟨sim_iconst d195_150 (by decide), gr_Push (.int 2) 151⟩,
  List.forall_mem_cons.mpr ⟨⟨sim_iload_n d195_151 rfl, gr_LdI 1 152⟩,
  List.forall_mem_cons.mpr ⟨⟨sim_imul d195_152, gr_II (fun x y => x * y) 153⟩,
  List.forall_mem_cons.mpr ⟨⟨sim_iadd d195_153, gr_II (fun x y => x + y) 154⟩,
  List.forall_mem_cons.mpr ⟨⟨sim_iaload d195_154, gr_ALdI 155⟩,
  List.forall_mem_cons.mpr ⟨⟨sim_bipush d195_155 (by decide), gr_Push (.int 10) 157⟩,
  List.forall_mem_cons.mpr ⟨⟨sim_aload_n d195_157 rfl, gr_LdA 0 158⟩,
  List.forall_mem_cons.mpr ⟨⟨sim_getF d195_158 gf171, gr_GetF (fun k => k = 11) 5 161⟩,
  List.forall_mem_cons.mpr ⟨⟨sim_bipush d195_161 (by decide), gr_Push (.int 102) 163⟩,
  List.forall_mem_cons.mpr ⟨⟨sim_iconst d195_163 (by decide), gr_Push (.int 2) 164⟩,
  List.forall_mem_cons.mpr ⟨⟨sim_iload_n d195_164 rfl, gr_LdI 1 165⟩,
  List.forall_mem_cons.mpr ⟨⟨sim_imul d195_165, gr_II (fun x y => x * y) 166⟩,
  List.forall_mem_cons.mpr ⟨⟨sim_iadd d195_166, gr_II (fun x y => x + y) 167⟩,
  List.forall_mem_cons.mpr ⟨⟨sim_iconst d195_167 (by decide), gr_Push (.int 1) 168⟩,
  List.forall_mem_cons.mpr ⟨⟨sim_iadd d195_168, gr_II (fun x y => x + y) 169⟩,
  List.forall_mem_cons.mpr ⟨⟨sim_iaload d195_169, gr_ALdI 170⟩,
  List.forall_mem_cons.mpr ⟨⟨sim_virtual d195_170 vk131, gr_CalV (fun k => if k = 11 then some 181 else none) 4 173⟩,
  List.forall_mem_cons.mpr ⟨⟨sim_aload_n d195_173 rfl, gr_LdA 0 174⟩,
  List.forall_mem_cons.mpr ⟨⟨sim_iconst d195_174 (by decide), gr_Push (.int 0) 175⟩,
  List.forall_mem_cons.mpr ⟨⟨sim_virtual d195_175 vk132, gr_CalV (fun k => if k = 11 then some 185 else none) 1 178⟩,
  List.forall_mem_cons.mpr ⟨⟨sim_if_eq d195_178 (by decide), gr_If (fun x => x = 0) 208 181⟩,
  List.forall_mem_cons.mpr ⟨⟨sim_iload d195_181, gr_LdI 6 183⟩,
  List.forall_mem_cons.mpr ⟨⟨sim_aload_n d195_183 rfl, gr_LdA 0 184⟩,
  List.forall_mem_cons.mpr ⟨⟨sim_bipush d195_184 (by decide), gr_Push (.int 40) 186⟩,
  List.forall_mem_cons.mpr ⟨⟨sim_iload_n d195_186 rfl, gr_LdI 2 187⟩,
  List.forall_mem_cons.mpr ⟨⟨sim_imul d195_187, gr_II (fun x y => x * y) 188⟩,
  List.forall_mem_cons.mpr ⟨⟨sim_iload_n d195_188 rfl, gr_LdI 3 189⟩,
  List.forall_mem_cons.mpr ⟨⟨sim_iload d195_189, gr_LdI 4 191⟩,
  List.forall_mem_cons.mpr ⟨⟨sim_virtual d195_191 vk135, gr_CalV (fun k => if k = 11 then some 194 else none) 3 194⟩,
  List.forall_mem_cons.mpr ⟨⟨sim_if_eq d195_194 (by decide), gr_If (fun x => x = 0) 201 197⟩,
  List.forall_mem_cons.mpr ⟨⟨sim_iconst d195_197 (by decide), gr_Push (.int 1) 198⟩,
  List.forall_mem_cons.mpr ⟨⟨sim_goto d195_198 (by decide), gr_Go 202⟩,
  List.forall_mem_cons.mpr ⟨⟨sim_iconst d195_201 (by decide), gr_Push (.int 0) 202⟩,
  List.forall_mem_cons.mpr ⟨⟨sim_iadd d195_202, gr_II (fun x y => x + y) 203⟩,
  List.forall_mem_cons.mpr ⟨⟨sim_istore d195_203 (by decide), gr_StI 6 205⟩,
  List.forall_mem_cons.mpr ⟨⟨sim_goto d195_205 (by decide), gr_Go 173⟩,
  List.forall_mem_cons.mpr ⟨⟨sim_iload d195_208, gr_LdI 6 210⟩,
  List.forall_mem_cons.mpr ⟨⟨sim_ireturn d195_210 rfl, gr_RetI⟩, fun _ h => absurd h List.not_mem_nil⟩⟩⟩⟩⟩⟩⟩⟩⟩⟩⟩⟩⟩⟩⟩⟩⟩⟩⟩⟩⟩⟩⟩⟩⟩⟩⟩⟩⟩⟩⟩⟩⟩⟩⟩⟩⟩⟩
noncomputable def pg195 : List (Nat × aP) := pg195_0 ++ (pg195_1 ++ (pg195_2))
theorem ok195 : ∀ q ∈ pg195, Sim mT mt195 q.1 q.2 ∧ Grow q.2 := List.forall_mem_append.mpr ⟨ok195_0, List.forall_mem_append.mpr ⟨ok195_1, ok195_2⟩⟩
theorem d196_0 : decode mt196.2.1 0 = .ok (.aload_n 0, 1) := by decide +kernel
theorem d196_1 : decode mt196.2.1 1 = .ok (.iconst 0, 1) := by decide +kernel
theorem d196_2 : decode mt196.2.1 2 = .ok (.putfield 74, 3) := by decide +kernel
theorem d196_5 : decode mt196.2.1 5 = .ok (.iload_n 1, 1) := by decide +kernel
theorem d196_6 : decode mt196.2.1 6 = .ok (.i2l, 1) := by decide +kernel
theorem d196_7 : decode mt196.2.1 7 = .ok (.lconst 0, 1) := by decide +kernel
theorem d196_8 : decode mt196.2.1 8 = .ok (.lconst 1, 1) := by decide +kernel
theorem d196_9 : decode mt196.2.1 9 = .ok (.invokestatic 84, 3) := by decide +kernel
theorem d196_12 : decode mt196.2.1 12 = .ok (.ifCond .ne 6, 3) := by decide +kernel
theorem d196_15 : decode mt196.2.1 15 = .ok (.ldc 94, 2) := by decide +kernel
theorem d196_17 : decode mt196.2.1 17 = .ok (.ireturn, 1) := by decide +kernel
theorem d196_18 : decode mt196.2.1 18 = .ok (.aload_n 0, 1) := by decide +kernel
theorem d196_19 : decode mt196.2.1 19 = .ok (.getfield 202, 3) := by decide +kernel
theorem d196_22 : decode mt196.2.1 22 = .ok (.ifCond .ne 7, 3) := by decide +kernel
theorem d196_25 : decode mt196.2.1 25 = .ok (.ldc_w 259, 3) := by decide +kernel
theorem d196_28 : decode mt196.2.1 28 = .ok (.ireturn, 1) := by decide +kernel
theorem d196_29 : decode mt196.2.1 29 = .ok (.iconst 0, 1) := by decide +kernel
theorem d196_30 : decode mt196.2.1 30 = .ok (.istore_n 2, 1) := by decide +kernel
theorem d196_31 : decode mt196.2.1 31 = .ok (.iload_n 2, 1) := by decide +kernel
theorem d196_32 : decode mt196.2.1 32 = .ok (.sipush 194, 3) := by decide +kernel
theorem d196_35 : decode mt196.2.1 35 = .ok (.if_icmp .ge 27, 3) := by decide +kernel
theorem d196_38 : decode mt196.2.1 38 = .ok (.aload_n 0, 1) := by decide +kernel
theorem d196_39 : decode mt196.2.1 39 = .ok (.getfield 68, 3) := by decide +kernel
theorem d196_42 : decode mt196.2.1 42 = .ok (.sipush 194, 3) := by decide +kernel
theorem d196_45 : decode mt196.2.1 45 = .ok (.iload_n 1, 1) := by decide +kernel
theorem d196_46 : decode mt196.2.1 46 = .ok (.imul, 1) := by decide +kernel
theorem d196_47 : decode mt196.2.1 47 = .ok (.iload_n 2, 1) := by decide +kernel
theorem d196_48 : decode mt196.2.1 48 = .ok (.iadd, 1) := by decide +kernel
theorem d196_49 : decode mt196.2.1 49 = .ok (.aload_n 0, 1) := by decide +kernel
theorem d196_50 : decode mt196.2.1 50 = .ok (.getfield 19, 3) := by decide +kernel
theorem d196_53 : decode mt196.2.1 53 = .ok (.iload_n 2, 1) := by decide +kernel
theorem d196_54 : decode mt196.2.1 54 = .ok (.iaload, 1) := by decide +kernel
theorem d196_55 : decode mt196.2.1 55 = .ok (.iastore, 1) := by decide +kernel
theorem d196_56 : decode mt196.2.1 56 = .ok (.iinc 2 1, 3) := by decide +kernel
theorem d196_59 : decode mt196.2.1 59 = .ok (.goto (-28), 3) := by decide +kernel
theorem d196_62 : decode mt196.2.1 62 = .ok (.aload_n 0, 1) := by decide +kernel
theorem d196_63 : decode mt196.2.1 63 = .ok (.getfield 65, 3) := by decide +kernel
theorem d196_66 : decode mt196.2.1 66 = .ok (.iload_n 1, 1) := by decide +kernel
theorem d196_67 : decode mt196.2.1 67 = .ok (.iconst 1, 1) := by decide +kernel
theorem d196_68 : decode mt196.2.1 68 = .ok (.bastore, 1) := by decide +kernel
theorem d196_69 : decode mt196.2.1 69 = .ok (.iconst 1, 1) := by decide +kernel
theorem d196_70 : decode mt196.2.1 70 = .ok (.ireturn, 1) := by decide +kernel
noncomputable def pg196_0 : List (Nat × aP) := [(0, oLdA 0 1),
  (1, oPush (.int 0) 2),
  (2, oPutI (fun k => k = 11) 0 5),
  (5, oLdI 1 6),
  (6, oIL (fun x => x.toInt64) 7),
  (7, oPush (.long 0) 8),
  (8, oPush (.long 1) 9),
  (9, oCall 131 3 12),
  (12, oIf (fun x => ¬ x = 0) 18 15),
  (15, oPush (.int (-1000001)) 17),
  (17, oRetI),
  (18, oLdA 0 19),
  (19, oGetI (fun k => k = 11) 7 22),
  (22, oIf (fun x => ¬ x = 0) 29 25),
  (25, oPush (.int (-1000002)) 28),
  (28, oRetI),
  (29, oPush (.int 0) 30),
  (30, oStI 2 31),
  (31, oLdI 2 32),
  (32, oPush (.int 194) 35),
  (35, oIc (fun x y => y ≤ x) 62 38),
  (38, oLdA 0 39),
  (39, oGetF (fun k => k = 11) 34 42),
  (42, oPush (.int 194) 45),
  (45, oLdI 1 46),
  (46, oII (fun x y => x * y) 47),
  (47, oLdI 2 48),
  (48, oII (fun x y => x + y) 49),
  (49, oLdA 0 50),
  (50, oGetF (fun k => k = 11) 5 53),
  (53, oLdI 2 54),
  (54, oALdI 55),
  (55, oAStI 56),
  (56, oInc 2 1 59),
  (59, oGo 31),
  (62, oLdA 0 63),
  (63, oGetF (fun k => k = 11) 33 66),
  (66, oLdI 1 67),
  (67, oPush (.int 1) 68),
  (68, oAStB 69)]
theorem ok196_0 : ∀ q ∈ pg196_0, Sim mT mt196 q.1 q.2 ∧ Grow q.2 :=
  List.forall_mem_cons.mpr ⟨⟨sim_aload_n d196_0 rfl, gr_LdA 0 1⟩,
  List.forall_mem_cons.mpr ⟨⟨sim_iconst d196_1 (by decide), gr_Push (.int 0) 2⟩,
  List.forall_mem_cons.mpr ⟨⟨sim_putI d196_2 gf155w, gr_PutI (fun k => k = 11) 0 5⟩,
  List.forall_mem_cons.mpr ⟨⟨sim_iload_n d196_5 rfl, gr_LdI 1 6⟩,
  List.forall_mem_cons.mpr ⟨⟨sim_i2l d196_6, gr_IL (fun x => x.toInt64) 7⟩,
  List.forall_mem_cons.mpr ⟨⟨sim_lconst d196_7 (by decide), gr_Push (.long 0) 8⟩,
  List.forall_mem_cons.mpr ⟨⟨sim_lconst d196_8 (by decide), gr_Push (.long 1) 9⟩,
  List.forall_mem_cons.mpr ⟨⟨sim_static (y := 131) d196_9 (Or.inl kw1038) kw1039 mo131, gr_Call 131 3 12⟩,
  List.forall_mem_cons.mpr ⟨⟨sim_if_ne d196_12 (by decide), gr_If (fun x => ¬ x = 0) 18 15⟩,
  List.forall_mem_cons.mpr ⟨⟨sim_ldc d196_15 kw1042, gr_Push (.int (-1000001)) 17⟩,
  List.forall_mem_cons.mpr ⟨⟨sim_ireturn d196_17 rfl, gr_RetI⟩,
  List.forall_mem_cons.mpr ⟨⟨sim_aload_n d196_18 rfl, gr_LdA 0 19⟩,
  List.forall_mem_cons.mpr ⟨⟨sim_getI d196_19 gf170, gr_GetI (fun k => k = 11) 7 22⟩,
  List.forall_mem_cons.mpr ⟨⟨sim_if_ne d196_22 (by decide), gr_If (fun x => ¬ x = 0) 29 25⟩,
  List.forall_mem_cons.mpr ⟨⟨sim_ldcw d196_25 kw1217, gr_Push (.int (-1000002)) 28⟩,
  List.forall_mem_cons.mpr ⟨⟨sim_ireturn d196_28 rfl, gr_RetI⟩,
  List.forall_mem_cons.mpr ⟨⟨sim_iconst d196_29 (by decide), gr_Push (.int 0) 30⟩,
  List.forall_mem_cons.mpr ⟨⟨sim_istore_n d196_30 rfl (by decide), gr_StI 2 31⟩,
  List.forall_mem_cons.mpr ⟨⟨sim_iload_n d196_31 rfl, gr_LdI 2 32⟩,
  List.forall_mem_cons.mpr ⟨⟨sim_sipush d196_32 (by decide), gr_Push (.int 194) 35⟩,
  List.forall_mem_cons.mpr ⟨⟨sim_icmp_ge d196_35 (by decide), gr_Ic (fun x y => y ≤ x) 62 38⟩,
  List.forall_mem_cons.mpr ⟨⟨sim_aload_n d196_38 rfl, gr_LdA 0 39⟩,
  List.forall_mem_cons.mpr ⟨⟨sim_getF d196_39 gf187, gr_GetF (fun k => k = 11) 34 42⟩,
  List.forall_mem_cons.mpr ⟨⟨sim_sipush d196_42 (by decide), gr_Push (.int 194) 45⟩,
  List.forall_mem_cons.mpr ⟨⟨sim_iload_n d196_45 rfl, gr_LdI 1 46⟩,
  List.forall_mem_cons.mpr ⟨⟨sim_imul d196_46, gr_II (fun x y => x * y) 47⟩,
  List.forall_mem_cons.mpr ⟨⟨sim_iload_n d196_47 rfl, gr_LdI 2 48⟩,
  List.forall_mem_cons.mpr ⟨⟨sim_iadd d196_48, gr_II (fun x y => x + y) 49⟩,
  List.forall_mem_cons.mpr ⟨⟨sim_aload_n d196_49 rfl, gr_LdA 0 50⟩,
  List.forall_mem_cons.mpr ⟨⟨sim_getF d196_50 gf171, gr_GetF (fun k => k = 11) 5 53⟩,
  List.forall_mem_cons.mpr ⟨⟨sim_iload_n d196_53 rfl, gr_LdI 2 54⟩,
  List.forall_mem_cons.mpr ⟨⟨sim_iaload d196_54, gr_ALdI 55⟩,
  List.forall_mem_cons.mpr ⟨⟨sim_iastore d196_55, gr_AStI 56⟩,
  List.forall_mem_cons.mpr ⟨⟨sim_iinc d196_56 (by decide) (by decide), gr_Inc 2 1 59⟩,
  List.forall_mem_cons.mpr ⟨⟨sim_goto d196_59 (by decide), gr_Go 31⟩,
  List.forall_mem_cons.mpr ⟨⟨sim_aload_n d196_62 rfl, gr_LdA 0 63⟩,
  List.forall_mem_cons.mpr ⟨⟨sim_getF d196_63 gf188, gr_GetF (fun k => k = 11) 33 66⟩,
  List.forall_mem_cons.mpr ⟨⟨sim_iload_n d196_66 rfl, gr_LdI 1 67⟩,
  List.forall_mem_cons.mpr ⟨⟨sim_iconst d196_67 (by decide), gr_Push (.int 1) 68⟩,
  List.forall_mem_cons.mpr ⟨⟨sim_bastore d196_68, gr_AStB 69⟩, fun _ h => absurd h List.not_mem_nil⟩⟩⟩⟩⟩⟩⟩⟩⟩⟩⟩⟩⟩⟩⟩⟩⟩⟩⟩⟩⟩⟩⟩⟩⟩⟩⟩⟩⟩⟩⟩⟩⟩⟩⟩⟩⟩⟩⟩⟩
noncomputable def pg196_1 : List (Nat × aP) := [(69, oPush (.int 1) 70),
  (70, oRetI)]
theorem ok196_1 : ∀ q ∈ pg196_1, Sim mT mt196 q.1 q.2 ∧ Grow q.2 :=
  List.forall_mem_cons.mpr ⟨⟨sim_iconst d196_69 (by decide), gr_Push (.int 1) 70⟩,
  List.forall_mem_cons.mpr ⟨⟨sim_ireturn d196_70 rfl, gr_RetI⟩, fun _ h => absurd h List.not_mem_nil⟩⟩
noncomputable def pg196 : List (Nat × aP) := pg196_0 ++ (pg196_1)
theorem ok196 : ∀ q ∈ pg196, Sim mT mt196 q.1 q.2 ∧ Grow q.2 := List.forall_mem_append.mpr ⟨ok196_0, ok196_1⟩
theorem d197_0 : decode mt197.2.1 0 = .ok (.aload_n 0, 1) := by decide +kernel
theorem d197_1 : decode mt197.2.1 1 = .ok (.iconst 0, 1) := by decide +kernel
theorem d197_2 : decode mt197.2.1 2 = .ok (.putfield 74, 3) := by decide +kernel
theorem d197_5 : decode mt197.2.1 5 = .ok (.iload_n 1, 1) := by decide +kernel
theorem d197_6 : decode mt197.2.1 6 = .ok (.i2l, 1) := by decide +kernel
theorem d197_7 : decode mt197.2.1 7 = .ok (.lconst 0, 1) := by decide +kernel
theorem d197_8 : decode mt197.2.1 8 = .ok (.lconst 1, 1) := by decide +kernel
theorem d197_9 : decode mt197.2.1 9 = .ok (.invokestatic 84, 3) := by decide +kernel
theorem d197_12 : decode mt197.2.1 12 = .ok (.ifCond .ne 6, 3) := by decide +kernel
theorem d197_15 : decode mt197.2.1 15 = .ok (.ldc 94, 2) := by decide +kernel
theorem d197_17 : decode mt197.2.1 17 = .ok (.ireturn, 1) := by decide +kernel
theorem d197_18 : decode mt197.2.1 18 = .ok (.aload_n 0, 1) := by decide +kernel
theorem d197_19 : decode mt197.2.1 19 = .ok (.getfield 65, 3) := by decide +kernel
theorem d197_22 : decode mt197.2.1 22 = .ok (.iload_n 1, 1) := by decide +kernel
theorem d197_23 : decode mt197.2.1 23 = .ok (.baload, 1) := by decide +kernel
theorem d197_24 : decode mt197.2.1 24 = .ok (.ifCond .ne 7, 3) := by decide +kernel
theorem d197_27 : decode mt197.2.1 27 = .ok (.ldc_w 259, 3) := by decide +kernel
theorem d197_30 : decode mt197.2.1 30 = .ok (.ireturn, 1) := by decide +kernel
theorem d197_31 : decode mt197.2.1 31 = .ok (.iconst 0, 1) := by decide +kernel
theorem d197_32 : decode mt197.2.1 32 = .ok (.istore_n 2, 1) := by decide +kernel
theorem d197_33 : decode mt197.2.1 33 = .ok (.iload_n 2, 1) := by decide +kernel
theorem d197_34 : decode mt197.2.1 34 = .ok (.sipush 194, 3) := by decide +kernel
theorem d197_37 : decode mt197.2.1 37 = .ok (.if_icmp .ge 27, 3) := by decide +kernel
theorem d197_40 : decode mt197.2.1 40 = .ok (.aload_n 0, 1) := by decide +kernel
theorem d197_41 : decode mt197.2.1 41 = .ok (.getfield 19, 3) := by decide +kernel
theorem d197_44 : decode mt197.2.1 44 = .ok (.iload_n 2, 1) := by decide +kernel
theorem d197_45 : decode mt197.2.1 45 = .ok (.aload_n 0, 1) := by decide +kernel
theorem d197_46 : decode mt197.2.1 46 = .ok (.getfield 68, 3) := by decide +kernel
theorem d197_49 : decode mt197.2.1 49 = .ok (.sipush 194, 3) := by decide +kernel
theorem d197_52 : decode mt197.2.1 52 = .ok (.iload_n 1, 1) := by decide +kernel
theorem d197_53 : decode mt197.2.1 53 = .ok (.imul, 1) := by decide +kernel
theorem d197_54 : decode mt197.2.1 54 = .ok (.iload_n 2, 1) := by decide +kernel
theorem d197_55 : decode mt197.2.1 55 = .ok (.iadd, 1) := by decide +kernel
theorem d197_56 : decode mt197.2.1 56 = .ok (.iaload, 1) := by decide +kernel
theorem d197_57 : decode mt197.2.1 57 = .ok (.iastore, 1) := by decide +kernel
theorem d197_58 : decode mt197.2.1 58 = .ok (.iinc 2 1, 3) := by decide +kernel
theorem d197_61 : decode mt197.2.1 61 = .ok (.goto (-28), 3) := by decide +kernel
theorem d197_64 : decode mt197.2.1 64 = .ok (.aload_n 0, 1) := by decide +kernel
theorem d197_65 : decode mt197.2.1 65 = .ok (.invokevirtual 206, 3) := by decide +kernel
theorem d197_68 : decode mt197.2.1 68 = .ok (.iconst 1, 1) := by decide +kernel
theorem d197_69 : decode mt197.2.1 69 = .ok (.ireturn, 1) := by decide +kernel
noncomputable def pg197_0 : List (Nat × aP) := [(0, oLdA 0 1),
  (1, oPush (.int 0) 2),
  (2, oPutI (fun k => k = 11) 0 5),
  (5, oLdI 1 6),
  (6, oIL (fun x => x.toInt64) 7),
  (7, oPush (.long 0) 8),
  (8, oPush (.long 1) 9),
  (9, oCall 131 3 12),
  (12, oIf (fun x => ¬ x = 0) 18 15),
  (15, oPush (.int (-1000001)) 17),
  (17, oRetI),
  (18, oLdA 0 19),
  (19, oGetF (fun k => k = 11) 33 22),
  (22, oLdI 1 23),
  (23, oALdB 24),
  (24, oIf (fun x => ¬ x = 0) 31 27),
  (27, oPush (.int (-1000002)) 30),
  (30, oRetI),
  (31, oPush (.int 0) 32),
  (32, oStI 2 33),
  (33, oLdI 2 34),
  (34, oPush (.int 194) 37),
  (37, oIc (fun x y => y ≤ x) 64 40),
  (40, oLdA 0 41),
  (41, oGetF (fun k => k = 11) 5 44),
  (44, oLdI 2 45),
  (45, oLdA 0 46),
  (46, oGetF (fun k => k = 11) 34 49),
  (49, oPush (.int 194) 52),
  (52, oLdI 1 53),
  (53, oII (fun x y => x * y) 54),
  (54, oLdI 2 55),
  (55, oII (fun x y => x + y) 56),
  (56, oALdI 57),
  (57, oAStI 58),
  (58, oInc 2 1 61),
  (61, oGo 33),
  (64, oLdA 0 65),
  (65, oCalV (fun k => if k = 11 then some 164 else none) 0 68),
  (68, oPush (.int 1) 69)]
theorem ok197_0 : ∀ q ∈ pg197_0, Sim mT mt197 q.1 q.2 ∧ Grow q.2 :=
  List.forall_mem_cons.mpr ⟨⟨sim_aload_n d197_0 rfl, gr_LdA 0 1⟩,
  List.forall_mem_cons.mpr ⟨⟨sim_iconst d197_1 (by decide), gr_Push (.int 0) 2⟩,
  List.forall_mem_cons.mpr ⟨⟨sim_putI d197_2 gf155w, gr_PutI (fun k => k = 11) 0 5⟩,
  List.forall_mem_cons.mpr ⟨⟨sim_iload_n d197_5 rfl, gr_LdI 1 6⟩,
  List.forall_mem_cons.mpr ⟨⟨sim_i2l d197_6, gr_IL (fun x => x.toInt64) 7⟩,
  List.forall_mem_cons.mpr ⟨⟨sim_lconst d197_7 (by decide), gr_Push (.long 0) 8⟩,
  List.forall_mem_cons.mpr ⟨⟨sim_lconst d197_8 (by decide), gr_Push (.long 1) 9⟩,
  List.forall_mem_cons.mpr ⟨⟨sim_static (y := 131) d197_9 (Or.inl kw1038) kw1039 mo131, gr_Call 131 3 12⟩,
  List.forall_mem_cons.mpr ⟨⟨sim_if_ne d197_12 (by decide), gr_If (fun x => ¬ x = 0) 18 15⟩,
  List.forall_mem_cons.mpr ⟨⟨sim_ldc d197_15 kw1042, gr_Push (.int (-1000001)) 17⟩,
  List.forall_mem_cons.mpr ⟨⟨sim_ireturn d197_17 rfl, gr_RetI⟩,
  List.forall_mem_cons.mpr ⟨⟨sim_aload_n d197_18 rfl, gr_LdA 0 19⟩,
  List.forall_mem_cons.mpr ⟨⟨sim_getF d197_19 gf188, gr_GetF (fun k => k = 11) 33 22⟩,
  List.forall_mem_cons.mpr ⟨⟨sim_iload_n d197_22 rfl, gr_LdI 1 23⟩,
  List.forall_mem_cons.mpr ⟨⟨sim_baload d197_23, gr_ALdB 24⟩,
  List.forall_mem_cons.mpr ⟨⟨sim_if_ne d197_24 (by decide), gr_If (fun x => ¬ x = 0) 31 27⟩,
  List.forall_mem_cons.mpr ⟨⟨sim_ldcw d197_27 kw1217, gr_Push (.int (-1000002)) 30⟩,
  List.forall_mem_cons.mpr ⟨⟨sim_ireturn d197_30 rfl, gr_RetI⟩,
  List.forall_mem_cons.mpr ⟨⟨sim_iconst d197_31 (by decide), gr_Push (.int 0) 32⟩,
  List.forall_mem_cons.mpr ⟨⟨sim_istore_n d197_32 rfl (by decide), gr_StI 2 33⟩,
  List.forall_mem_cons.mpr ⟨⟨sim_iload_n d197_33 rfl, gr_LdI 2 34⟩,
  List.forall_mem_cons.mpr ⟨⟨sim_sipush d197_34 (by decide), gr_Push (.int 194) 37⟩,
  List.forall_mem_cons.mpr ⟨⟨sim_icmp_ge d197_37 (by decide), gr_Ic (fun x y => y ≤ x) 64 40⟩,
  List.forall_mem_cons.mpr ⟨⟨sim_aload_n d197_40 rfl, gr_LdA 0 41⟩,
  List.forall_mem_cons.mpr ⟨⟨sim_getF d197_41 gf171, gr_GetF (fun k => k = 11) 5 44⟩,
  List.forall_mem_cons.mpr ⟨⟨sim_iload_n d197_44 rfl, gr_LdI 2 45⟩,
  List.forall_mem_cons.mpr ⟨⟨sim_aload_n d197_45 rfl, gr_LdA 0 46⟩,
  List.forall_mem_cons.mpr ⟨⟨sim_getF d197_46 gf187, gr_GetF (fun k => k = 11) 34 49⟩,
  List.forall_mem_cons.mpr ⟨⟨sim_sipush d197_49 (by decide), gr_Push (.int 194) 52⟩,
  List.forall_mem_cons.mpr ⟨⟨sim_iload_n d197_52 rfl, gr_LdI 1 53⟩,
  List.forall_mem_cons.mpr ⟨⟨sim_imul d197_53, gr_II (fun x y => x * y) 54⟩,
  List.forall_mem_cons.mpr ⟨⟨sim_iload_n d197_54 rfl, gr_LdI 2 55⟩,
  List.forall_mem_cons.mpr ⟨⟨sim_iadd d197_55, gr_II (fun x y => x + y) 56⟩,
  List.forall_mem_cons.mpr ⟨⟨sim_iaload d197_56, gr_ALdI 57⟩,
  List.forall_mem_cons.mpr ⟨⟨sim_iastore d197_57, gr_AStI 58⟩,
  List.forall_mem_cons.mpr ⟨⟨sim_iinc d197_58 (by decide) (by decide), gr_Inc 2 1 61⟩,
  List.forall_mem_cons.mpr ⟨⟨sim_goto d197_61 (by decide), gr_Go 33⟩,
  List.forall_mem_cons.mpr ⟨⟨sim_aload_n d197_64 rfl, gr_LdA 0 65⟩,
  List.forall_mem_cons.mpr ⟨⟨sim_virtual d197_65 vk115, gr_CalV (fun k => if k = 11 then some 164 else none) 0 68⟩,
  List.forall_mem_cons.mpr ⟨⟨sim_iconst d197_68 (by decide), gr_Push (.int 1) 69⟩, fun _ h => absurd h List.not_mem_nil⟩⟩⟩⟩⟩⟩⟩⟩⟩⟩⟩⟩⟩⟩⟩⟩⟩⟩⟩⟩⟩⟩⟩⟩⟩⟩⟩⟩⟩⟩⟩⟩⟩⟩⟩⟩⟩⟩⟩⟩
noncomputable def pg197_1 : List (Nat × aP) := [(69, oRetI)]
theorem ok197_1 : ∀ q ∈ pg197_1, Sim mT mt197 q.1 q.2 ∧ Grow q.2 :=
  List.forall_mem_cons.mpr ⟨⟨sim_ireturn d197_69 rfl, gr_RetI⟩, fun _ h => absurd h List.not_mem_nil⟩
noncomputable def pg197 : List (Nat × aP) := pg197_0 ++ (pg197_1)
theorem ok197 : ∀ q ∈ pg197, Sim mT mt197 q.1 q.2 ∧ Grow q.2 := List.forall_mem_append.mpr ⟨ok197_0, ok197_1⟩
theorem d198_0 : decode mt198.2.1 0 = .ok (.aload_n 0, 1) := by decide +kernel
theorem d198_1 : decode mt198.2.1 1 = .ok (.getfield 19, 3) := by decide +kernel
theorem d198_4 : decode mt198.2.1 4 = .ok (.iconst 4, 1) := by decide +kernel
theorem d198_5 : decode mt198.2.1 5 = .ok (.iload_n 1, 1) := by decide +kernel
theorem d198_6 : decode mt198.2.1 6 = .ok (.iadd, 1) := by decide +kernel
theorem d198_7 : decode mt198.2.1 7 = .ok (.iaload, 1) := by decide +kernel
theorem d198_8 : decode mt198.2.1 8 = .ok (.istore_n 2, 1) := by decide +kernel
theorem d198_9 : decode mt198.2.1 9 = .ok (.iload_n 2, 1) := by decide +kernel
theorem d198_10 : decode mt198.2.1 10 = .ok (.ifCond .ge 5, 3) := by decide +kernel
theorem d198_13 : decode mt198.2.1 13 = .ok (.iconst 2, 1) := by decide +kernel
theorem d198_14 : decode mt198.2.1 14 = .ok (.ireturn, 1) := by decide +kernel
theorem d198_15 : decode mt198.2.1 15 = .ok (.aload_n 0, 1) := by decide +kernel
theorem d198_16 : decode mt198.2.1 16 = .ok (.getfield 32, 3) := by decide +kernel
theorem d198_19 : decode mt198.2.1 19 = .ok (.iload_n 1, 1) := by decide +kernel
theorem d198_20 : decode mt198.2.1 20 = .ok (.iaload, 1) := by decide +kernel
theorem d198_21 : decode mt198.2.1 21 = .ok (.ldc 110, 2) := by decide +kernel
theorem d198_23 : decode mt198.2.1 23 = .ok (.if_icmp .ne 17, 3) := by decide +kernel
theorem d198_26 : decode mt198.2.1 26 = .ok (.iload_n 2, 1) := by decide +kernel
theorem d198_27 : decode mt198.2.1 27 = .ok (.bipush 6, 2) := by decide +kernel
theorem d198_29 : decode mt198.2.1 29 = .ok (.if_icmp .le 7, 3) := by decide +kernel
theorem d198_32 : decode mt198.2.1 32 = .ok (.iconst 4, 1) := by decide +kernel
theorem d198_33 : decode mt198.2.1 33 = .ok (.goto 18, 3) := by decide +kernel
theorem d198_36 : decode mt198.2.1 36 = .ok (.iconst 1, 1) := by decide +kernel
theorem d198_37 : decode mt198.2.1 37 = .ok (.goto 14, 3) := by decide +kernel
theorem d198_40 : decode mt198.2.1 40 = .ok (.iload_n 2, 1) := by decide +kernel
theorem d198_41 : decode mt198.2.1 41 = .ok (.bipush 6, 2) := by decide +kernel
theorem d198_43 : decode mt198.2.1 43 = .ok (.if_icmp .le 7, 3) := by decide +kernel
theorem d198_46 : decode mt198.2.1 46 = .ok (.iconst 5, 1) := by decide +kernel
theorem d198_47 : decode mt198.2.1 47 = .ok (.goto 4, 3) := by decide +kernel
theorem d198_50 : decode mt198.2.1 50 = .ok (.iconst 3, 1) := by decide +kernel
theorem d198_51 : decode mt198.2.1 51 = .ok (.ireturn, 1) := by decide +kernel
noncomputable def pg198_0 : List (Nat × aP) := [(0, oLdA 0 1),
  (1, oGetF (fun k => k = 11) 5 4),
  (4, oPush (.int 4) 5),
  (5, oLdI 1 6),
  (6, oII (fun x y => x + y) 7),
  (7, oALdI 8),
  (8, oStI 2 9),
  (9, oLdI 2 10),
  (10, oIf (fun x => 0 ≤ x) 15 13),
  (13, oPush (.int 2) 14),
  (14, oRetI),
  (15, oLdA 0 16),
  (16, oGetF (fun k => k = 11) 19 19),
  (19, oLdI 1 20),
  (20, oALdI 21),
  (21, oPush (.int (-1000000)) 23),
  (23, oIc (fun x y => ¬ x = y) 40 26),
  (26, oLdI 2 27),
  (27, oPush (.int 6) 29),
  (29, oIc (fun x y => x ≤ y) 36 32),
  (32, oPush (.int 4) 33),
  (33, oGo 51),
  (36, oPush (.int 1) 37),
  (37, oGo 51),
  (40, oLdI 2 41),
  (41, oPush (.int 6) 43),
  (43, oIc (fun x y => x ≤ y) 50 46),
  (46, oPush (.int 5) 47),
  (47, oGo 51),
  (50, oPush (.int 3) 51),
  (51, oRetI)]
theorem ok198_0 : ∀ q ∈ pg198_0, Sim mT mt198 q.1 q.2 ∧ Grow q.2 :=
  List.forall_mem_cons.mpr ⟨⟨sim_aload_n d198_0 rfl, gr_LdA 0 1⟩,
  List.forall_mem_cons.mpr ⟨⟨sim_getF d198_1 gf171, gr_GetF (fun k => k = 11) 5 4⟩,
  List.forall_mem_cons.mpr ⟨⟨sim_iconst d198_4 (by decide), gr_Push (.int 4) 5⟩,
  List.forall_mem_cons.mpr ⟨⟨sim_iload_n d198_5 rfl, gr_LdI 1 6⟩,
  List.forall_mem_cons.mpr ⟨⟨sim_iadd d198_6, gr_II (fun x y => x + y) 7⟩,
  List.forall_mem_cons.mpr ⟨⟨sim_iaload d198_7, gr_ALdI 8⟩,
  List.forall_mem_cons.mpr ⟨⟨sim_istore_n d198_8 rfl (by decide), gr_StI 2 9⟩,
  List.forall_mem_cons.mpr ⟨⟨sim_iload_n d198_9 rfl, gr_LdI 2 10⟩,
  List.forall_mem_cons.mpr ⟨⟨sim_if_ge d198_10 (by decide), gr_If (fun x => 0 ≤ x) 15 13⟩,
  List.forall_mem_cons.mpr ⟨⟨sim_iconst d198_13 (by decide), gr_Push (.int 2) 14⟩,
  List.forall_mem_cons.mpr ⟨⟨sim_ireturn d198_14 rfl, gr_RetI⟩,
  List.forall_mem_cons.mpr ⟨⟨sim_aload_n d198_15 rfl, gr_LdA 0 16⟩,
  List.forall_mem_cons.mpr ⟨⟨sim_getF d198_16 gf174, gr_GetF (fun k => k = 11) 19 19⟩,
  List.forall_mem_cons.mpr ⟨⟨sim_iload_n d198_19 rfl, gr_LdI 1 20⟩,
  List.forall_mem_cons.mpr ⟨⟨sim_iaload d198_20, gr_ALdI 21⟩,
  List.forall_mem_cons.mpr ⟨⟨sim_ldc d198_21 kw1083, gr_Push (.int (-1000000)) 23⟩,
  List.forall_mem_cons.mpr ⟨⟨sim_icmp_ne d198_23 (by decide), gr_Ic (fun x y => ¬ x = y) 40 26⟩,
  List.forall_mem_cons.mpr ⟨⟨sim_iload_n d198_26 rfl, gr_LdI 2 27⟩,
  List.forall_mem_cons.mpr ⟨⟨sim_bipush d198_27 (by decide), gr_Push (.int 6) 29⟩,
  List.forall_mem_cons.mpr ⟨⟨sim_icmp_le d198_29 (by decide), gr_Ic (fun x y => x ≤ y) 36 32⟩,
  List.forall_mem_cons.mpr ⟨⟨sim_iconst d198_32 (by decide), gr_Push (.int 4) 33⟩,
  List.forall_mem_cons.mpr ⟨⟨sim_goto d198_33 (by decide), gr_Go 51⟩,
  List.forall_mem_cons.mpr ⟨⟨sim_iconst d198_36 (by decide), gr_Push (.int 1) 37⟩,
  List.forall_mem_cons.mpr ⟨⟨sim_goto d198_37 (by decide), gr_Go 51⟩,
  List.forall_mem_cons.mpr ⟨⟨sim_iload_n d198_40 rfl, gr_LdI 2 41⟩,
  List.forall_mem_cons.mpr ⟨⟨sim_bipush d198_41 (by decide), gr_Push (.int 6) 43⟩,
  List.forall_mem_cons.mpr ⟨⟨sim_icmp_le d198_43 (by decide), gr_Ic (fun x y => x ≤ y) 50 46⟩,
  List.forall_mem_cons.mpr ⟨⟨sim_iconst d198_46 (by decide), gr_Push (.int 5) 47⟩,
  List.forall_mem_cons.mpr ⟨⟨sim_goto d198_47 (by decide), gr_Go 51⟩,
  List.forall_mem_cons.mpr ⟨⟨sim_iconst d198_50 (by decide), gr_Push (.int 3) 51⟩,
  List.forall_mem_cons.mpr ⟨⟨sim_ireturn d198_51 rfl, gr_RetI⟩, fun _ h => absurd h List.not_mem_nil⟩⟩⟩⟩⟩⟩⟩⟩⟩⟩⟩⟩⟩⟩⟩⟩⟩⟩⟩⟩⟩⟩⟩⟩⟩⟩⟩⟩⟩⟩⟩
noncomputable def pg198 : List (Nat × aP) := pg198_0
theorem ok198 : ∀ q ∈ pg198, Sim mT mt198 q.1 q.2 ∧ Grow q.2 := ok198_0
theorem d199_0 : decode mt199.2.1 0 = .ok (.iload_n 1, 1) := by decide +kernel
theorem d199_1 : decode mt199.2.1 1 = .ok (.ifCond .eq 28, 3) := by decide +kernel
theorem d199_4 : decode mt199.2.1 4 = .ok (.iload_n 0, 1) := by decide +kernel
theorem d199_5 : decode mt199.2.1 5 = .ok (.iload_n 1, 1) := by decide +kernel
theorem d199_6 : decode mt199.2.1 6 = .ok (.if_icmp .eq 23, 3) := by decide +kernel
theorem d199_9 : decode mt199.2.1 9 = .ok (.iload_n 1, 1) := by decide +kernel
theorem d199_10 : decode mt199.2.1 10 = .ok (.iconst 1, 1) := by decide +kernel
theorem d199_11 : decode mt199.2.1 11 = .ok (.if_icmp .ne 8, 3) := by decide +kernel
theorem d199_14 : decode mt199.2.1 14 = .ok (.iload_n 0, 1) := by decide +kernel
theorem d199_15 : decode mt199.2.1 15 = .ok (.iconst 2, 1) := by decide +kernel
theorem d199_16 : decode mt199.2.1 16 = .ok (.if_icmp .ne 13, 3) := by decide +kernel
theorem d199_19 : decode mt199.2.1 19 = .ok (.iload_n 1, 1) := by decide +kernel
theorem d199_20 : decode mt199.2.1 20 = .ok (.iconst 3, 1) := by decide +kernel
theorem d199_21 : decode mt199.2.1 21 = .ok (.if_icmp .ne 12, 3) := by decide +kernel
theorem d199_24 : decode mt199.2.1 24 = .ok (.iload_n 0, 1) := by decide +kernel
theorem d199_25 : decode mt199.2.1 25 = .ok (.iconst 5, 1) := by decide +kernel
theorem d199_26 : decode mt199.2.1 26 = .ok (.if_icmp .ne 7, 3) := by decide +kernel
theorem d199_29 : decode mt199.2.1 29 = .ok (.iconst 1, 1) := by decide +kernel
theorem d199_30 : decode mt199.2.1 30 = .ok (.goto 4, 3) := by decide +kernel
theorem d199_33 : decode mt199.2.1 33 = .ok (.iconst 0, 1) := by decide +kernel
theorem d199_34 : decode mt199.2.1 34 = .ok (.ireturn, 1) := by decide +kernel
noncomputable def pg199_0 : List (Nat × aP) := [(0, oLdI 1 1),
  (1, oIf (fun x => x = 0) 29 4),
  (4, oLdI 0 5),
  (5, oLdI 1 6),
  (6, oIc (fun x y => x = y) 29 9),
  (9, oLdI 1 10),
  (10, oPush (.int 1) 11),
  (11, oIc (fun x y => ¬ x = y) 19 14),
  (14, oLdI 0 15),
  (15, oPush (.int 2) 16),
  (16, oIc (fun x y => ¬ x = y) 29 19),
  (19, oLdI 1 20),
  (20, oPush (.int 3) 21),
  (21, oIc (fun x y => ¬ x = y) 33 24),
  (24, oLdI 0 25),
  (25, oPush (.int 5) 26),
  (26, oIc (fun x y => ¬ x = y) 33 29),
  (29, oPush (.int 1) 30),
  (30, oGo 34),
  (33, oPush (.int 0) 34),
  (34, oRetN .boolean)]
theorem ok199_0 : ∀ q ∈ pg199_0, Sim mT mt199 q.1 q.2 ∧ Grow q.2 :=
  List.forall_mem_cons.mpr ⟨⟨sim_iload_n d199_0 rfl, gr_LdI 1 1⟩,
  List.forall_mem_cons.mpr ⟨⟨sim_if_eq d199_1 (by decide), gr_If (fun x => x = 0) 29 4⟩,
  List.forall_mem_cons.mpr ⟨⟨sim_iload_n d199_4 rfl, gr_LdI 0 5⟩,
  List.forall_mem_cons.mpr ⟨⟨sim_iload_n d199_5 rfl, gr_LdI 1 6⟩,
  List.forall_mem_cons.mpr ⟨⟨sim_icmp_eq d199_6 (by decide), gr_Ic (fun x y => x = y) 29 9⟩,
  List.forall_mem_cons.mpr ⟨⟨sim_iload_n d199_9 rfl, gr_LdI 1 10⟩,
  List.forall_mem_cons.mpr ⟨⟨sim_iconst d199_10 (by decide), gr_Push (.int 1) 11⟩,
  List.forall_mem_cons.mpr ⟨⟨sim_icmp_ne d199_11 (by decide), gr_Ic (fun x y => ¬ x = y) 19 14⟩,
  List.forall_mem_cons.mpr ⟨⟨sim_iload_n d199_14 rfl, gr_LdI 0 15⟩,
  List.forall_mem_cons.mpr ⟨⟨sim_iconst d199_15 (by decide), gr_Push (.int 2) 16⟩,
  List.forall_mem_cons.mpr ⟨⟨sim_icmp_ne d199_16 (by decide), gr_Ic (fun x y => ¬ x = y) 29 19⟩,
  List.forall_mem_cons.mpr ⟨⟨sim_iload_n d199_19 rfl, gr_LdI 1 20⟩,
  List.forall_mem_cons.mpr ⟨⟨sim_iconst d199_20 (by decide), gr_Push (.int 3) 21⟩,
  List.forall_mem_cons.mpr ⟨⟨sim_icmp_ne d199_21 (by decide), gr_Ic (fun x y => ¬ x = y) 33 24⟩,
  List.forall_mem_cons.mpr ⟨⟨sim_iload_n d199_24 rfl, gr_LdI 0 25⟩,
  List.forall_mem_cons.mpr ⟨⟨sim_iconst d199_25 (by decide), gr_Push (.int 5) 26⟩,
  List.forall_mem_cons.mpr ⟨⟨sim_icmp_ne d199_26 (by decide), gr_Ic (fun x y => ¬ x = y) 33 29⟩,
  List.forall_mem_cons.mpr ⟨⟨sim_iconst d199_29 (by decide), gr_Push (.int 1) 30⟩,
  List.forall_mem_cons.mpr ⟨⟨sim_goto d199_30 (by decide), gr_Go 34⟩,
  List.forall_mem_cons.mpr ⟨⟨sim_iconst d199_33 (by decide), gr_Push (.int 0) 34⟩,
  List.forall_mem_cons.mpr ⟨⟨sim_nreturn d199_34 rfl (fun _ h => congrArg Value.int h), gr_RetN .boolean⟩, fun _ h => absurd h List.not_mem_nil⟩⟩⟩⟩⟩⟩⟩⟩⟩⟩⟩⟩⟩⟩⟩⟩⟩⟩⟩⟩⟩
noncomputable def pg199 : List (Nat × aP) := pg199_0
theorem ok199 : ∀ q ∈ pg199, Sim mT mt199 q.1 q.2 ∧ Grow q.2 := ok199_0
theorem d200_0 : decode mt200.2.1 0 = .ok (.aload_n 0, 1) := by decide +kernel
theorem d200_1 : decode mt200.2.1 1 = .ok (.iconst 0, 1) := by decide +kernel
theorem d200_2 : decode mt200.2.1 2 = .ok (.putfield 74, 3) := by decide +kernel
theorem d200_5 : decode mt200.2.1 5 = .ok (.aload_n 0, 1) := by decide +kernel
theorem d200_6 : decode mt200.2.1 6 = .ok (.iload_n 1, 1) := by decide +kernel
theorem d200_7 : decode mt200.2.1 7 = .ok (.invokevirtual 267, 3) := by decide +kernel
theorem d200_10 : decode mt200.2.1 10 = .ok (.ifCond .eq 11, 3) := by decide +kernel
theorem d200_13 : decode mt200.2.1 13 = .ok (.aload_n 0, 1) := by decide +kernel
theorem d200_14 : decode mt200.2.1 14 = .ok (.iload_n 1, 1) := by decide +kernel
theorem d200_15 : decode mt200.2.1 15 = .ok (.invokevirtual 313, 3) := by decide +kernel
theorem d200_18 : decode mt200.2.1 18 = .ok (.goto 5, 3) := by decide +kernel
theorem d200_21 : decode mt200.2.1 21 = .ok (.ldc 94, 2) := by decide +kernel
theorem d200_23 : decode mt200.2.1 23 = .ok (.ireturn, 1) := by decide +kernel
noncomputable def pg200_0 : List (Nat × aP) := [(0, oLdA 0 1),
  (1, oPush (.int 0) 2),
  (2, oPutI (fun k => k = 11) 0 5),
  (5, oLdA 0 6),
  (6, oLdI 1 7),
  (7, oCalV (fun k => if k = 11 then some 159 else none) 1 10),
  (10, oIf (fun x => x = 0) 21 13),
  (13, oLdA 0 14),
  (14, oLdI 1 15),
  (15, oCalV (fun k => if k = 11 then some 198 else none) 1 18),
  (18, oGo 23),
  (21, oPush (.int (-1000001)) 23),
  (23, oRetI)]
theorem ok200_0 : ∀ q ∈ pg200_0, Sim mT mt200 q.1 q.2 ∧ Grow q.2 :=
  List.forall_mem_cons.mpr ⟨⟨sim_aload_n d200_0 rfl, gr_LdA 0 1⟩,
  List.forall_mem_cons.mpr ⟨⟨sim_iconst d200_1 (by decide), gr_Push (.int 0) 2⟩,
  List.forall_mem_cons.mpr ⟨⟨sim_putI d200_2 gf155w, gr_PutI (fun k => k = 11) 0 5⟩,
  List.forall_mem_cons.mpr ⟨⟨sim_aload_n d200_5 rfl, gr_LdA 0 6⟩,
  List.forall_mem_cons.mpr ⟨⟨sim_iload_n d200_6 rfl, gr_LdI 1 7⟩,
  List.forall_mem_cons.mpr ⟨⟨sim_virtual d200_7 vk128, gr_CalV (fun k => if k = 11 then some 159 else none) 1 10⟩,
  List.forall_mem_cons.mpr ⟨⟨sim_if_eq d200_10 (by decide), gr_If (fun x => x = 0) 21 13⟩,
  List.forall_mem_cons.mpr ⟨⟨sim_aload_n d200_13 rfl, gr_LdA 0 14⟩,
  List.forall_mem_cons.mpr ⟨⟨sim_iload_n d200_14 rfl, gr_LdI 1 15⟩,
  List.forall_mem_cons.mpr ⟨⟨sim_virtual d200_15 vk136, gr_CalV (fun k => if k = 11 then some 198 else none) 1 18⟩,
  List.forall_mem_cons.mpr ⟨⟨sim_goto d200_18 (by decide), gr_Go 23⟩,
  List.forall_mem_cons.mpr ⟨⟨sim_ldc d200_21 kw1042, gr_Push (.int (-1000001)) 23⟩,
  List.forall_mem_cons.mpr ⟨⟨sim_ireturn d200_23 rfl, gr_RetI⟩, fun _ h => absurd h List.not_mem_nil⟩⟩⟩⟩⟩⟩⟩⟩⟩⟩⟩⟩⟩
noncomputable def pg200 : List (Nat × aP) := pg200_0
theorem ok200 : ∀ q ∈ pg200, Sim mT mt200 q.1 q.2 ∧ Grow q.2 := ok200_0
theorem d201_0 : decode mt201.2.1 0 = .ok (.aload_n 0, 1) := by decide +kernel
theorem d201_1 : decode mt201.2.1 1 = .ok (.iconst 0, 1) := by decide +kernel
theorem d201_2 : decode mt201.2.1 2 = .ok (.putfield 74, 3) := by decide +kernel
theorem d201_5 : decode mt201.2.1 5 = .ok (.aload_n 0, 1) := by decide +kernel
theorem d201_6 : decode mt201.2.1 6 = .ok (.iload_n 1, 1) := by decide +kernel
theorem d201_7 : decode mt201.2.1 7 = .ok (.invokevirtual 267, 3) := by decide +kernel
theorem d201_10 : decode mt201.2.1 10 = .ok (.ifCond .eq 15, 3) := by decide +kernel
theorem d201_13 : decode mt201.2.1 13 = .ok (.iload_n 2, 1) := by decide +kernel
theorem d201_14 : decode mt201.2.1 14 = .ok (.i2l, 1) := by decide +kernel
theorem d201_15 : decode mt201.2.1 15 = .ok (.lconst 0, 1) := by decide +kernel
theorem d201_16 : decode mt201.2.1 16 = .ok (.ldc2_w 316, 3) := by decide +kernel
theorem d201_19 : decode mt201.2.1 19 = .ok (.invokestatic 84, 3) := by decide +kernel
theorem d201_22 : decode mt201.2.1 22 = .ok (.ifCond .ne 6, 3) := by decide +kernel
theorem d201_25 : decode mt201.2.1 25 = .ok (.ldc 94, 2) := by decide +kernel
theorem d201_27 : decode mt201.2.1 27 = .ok (.ireturn, 1) := by decide +kernel
theorem d201_28 : decode mt201.2.1 28 = .ok (.aload_n 0, 1) := by decide +kernel
theorem d201_29 : decode mt201.2.1 29 = .ok (.iconst 0, 1) := by decide +kernel
theorem d201_30 : decode mt201.2.1 30 = .ok (.putfield 78, 3) := by decide +kernel
theorem d201_33 : decode mt201.2.1 33 = .ok (.aload_n 0, 1) := by decide +kernel
theorem d201_34 : decode mt201.2.1 34 = .ok (.iload_n 1, 1) := by decide +kernel
theorem d201_35 : decode mt201.2.1 35 = .ok (.invokevirtual 313, 3) := by decide +kernel
theorem d201_38 : decode mt201.2.1 38 = .ok (.iload_n 2, 1) := by decide +kernel
theorem d201_39 : decode mt201.2.1 39 = .ok (.invokestatic 318, 3) := by decide +kernel
theorem d201_42 : decode mt201.2.1 42 = .ok (.ifCond .eq 7, 3) := by decide +kernel
theorem d201_45 : decode mt201.2.1 45 = .ok (.iload_n 1, 1) := by decide +kernel
theorem d201_46 : decode mt201.2.1 46 = .ok (.goto 8, 3) := by decide +kernel
theorem d201_49 : decode mt201.2.1 49 = .ok (.aload_n 0, 1) := by decide +kernel
theorem d201_50 : decode mt201.2.1 50 = .ok (.iconst 3, 1) := by decide +kernel
theorem d201_51 : decode mt201.2.1 51 = .ok (.invokevirtual 95, 3) := by decide +kernel
theorem d201_54 : decode mt201.2.1 54 = .ok (.ireturn, 1) := by decide +kernel
noncomputable def pg201_0 : List (Nat × aP) := [(0, oLdA 0 1),
  (1, oPush (.int 0) 2),
  (2, oPutI (fun k => k = 11) 0 5),
  (5, oLdA 0 6),
  (6, oLdI 1 7),
  (7, oCalV (fun k => if k = 11 then some 159 else none) 1 10),
  (10, oIf (fun x => x = 0) 25 13),
  (13, oLdI 2 14),
  (14, oIL (fun x => x.toInt64) 15),
  (15, oPush (.long 0) 16),
  (16, oPush (.long 5) 19),
  (19, oCall 131 3 22),
  (22, oIf (fun x => ¬ x = 0) 28 25),
  (25, oPush (.int (-1000001)) 27),
  (27, oRetI),
  (28, oLdA 0 29),
  (29, oPush (.int 0) 30),
  (30, oPutI (fun k => k = 11) 1 33),
  (33, oLdA 0 34),
  (34, oLdI 1 35),
  (35, oCalV (fun k => if k = 11 then some 198 else none) 1 38),
  (38, oLdI 2 39),
  (39, oCall 199 2 42),
  (42, oIf (fun x => x = 0) 49 45),
  (45, oLdI 1 46),
  (46, oGo 54),
  (49, oLdA 0 50),
  (50, oPush (.int 3) 51),
  (51, oCalV (fun k => if k = 11 then some 132 else none) 1 54),
  (54, oRetI)]
theorem ok201_0 : ∀ q ∈ pg201_0, Sim mT mt201 q.1 q.2 ∧ Grow q.2 :=
  List.forall_mem_cons.mpr ⟨⟨sim_aload_n d201_0 rfl, gr_LdA 0 1⟩,
  List.forall_mem_cons.mpr ⟨⟨sim_iconst d201_1 (by decide), gr_Push (.int 0) 2⟩,
  List.forall_mem_cons.mpr ⟨⟨sim_putI d201_2 gf155w, gr_PutI (fun k => k = 11) 0 5⟩,
  List.forall_mem_cons.mpr ⟨⟨sim_aload_n d201_5 rfl, gr_LdA 0 6⟩,
  List.forall_mem_cons.mpr ⟨⟨sim_iload_n d201_6 rfl, gr_LdI 1 7⟩,
  List.forall_mem_cons.mpr ⟨⟨sim_virtual d201_7 vk128, gr_CalV (fun k => if k = 11 then some 159 else none) 1 10⟩,
  List.forall_mem_cons.mpr ⟨⟨sim_if_eq d201_10 (by decide), gr_If (fun x => x = 0) 25 13⟩,
  List.forall_mem_cons.mpr ⟨⟨sim_iload_n d201_13 rfl, gr_LdI 2 14⟩,
  List.forall_mem_cons.mpr ⟨⟨sim_i2l d201_14, gr_IL (fun x => x.toInt64) 15⟩,
  List.forall_mem_cons.mpr ⟨⟨sim_lconst d201_15 (by decide), gr_Push (.long 0) 16⟩,
  List.forall_mem_cons.mpr ⟨⟨sim_ldc2 d201_16 kw1322, gr_Push (.long 5) 19⟩,
  List.forall_mem_cons.mpr ⟨⟨sim_static (y := 131) d201_19 (Or.inl kw1038) kw1039 mo131, gr_Call 131 3 22⟩,
  List.forall_mem_cons.mpr ⟨⟨sim_if_ne d201_22 (by decide), gr_If (fun x => ¬ x = 0) 28 25⟩,
  List.forall_mem_cons.mpr ⟨⟨sim_ldc d201_25 kw1042, gr_Push (.int (-1000001)) 27⟩,
  List.forall_mem_cons.mpr ⟨⟨sim_ireturn d201_27 rfl, gr_RetI⟩,
  List.forall_mem_cons.mpr ⟨⟨sim_aload_n d201_28 rfl, gr_LdA 0 29⟩,
  List.forall_mem_cons.mpr ⟨⟨sim_iconst d201_29 (by decide), gr_Push (.int 0) 30⟩,
  List.forall_mem_cons.mpr ⟨⟨sim_putI d201_30 gf154w, gr_PutI (fun k => k = 11) 1 33⟩,
  List.forall_mem_cons.mpr ⟨⟨sim_aload_n d201_33 rfl, gr_LdA 0 34⟩,
  List.forall_mem_cons.mpr ⟨⟨sim_iload_n d201_34 rfl, gr_LdI 1 35⟩,
  List.forall_mem_cons.mpr ⟨⟨sim_virtual d201_35 vk136, gr_CalV (fun k => if k = 11 then some 198 else none) 1 38⟩,
  List.forall_mem_cons.mpr ⟨⟨sim_iload_n d201_38 rfl, gr_LdI 2 39⟩,
  List.forall_mem_cons.mpr ⟨⟨sim_static (y := 199) d201_39 (Or.inl kw1323) kw1324 mo199, gr_Call 199 2 42⟩,
  List.forall_mem_cons.mpr ⟨⟨sim_if_eq d201_42 (by decide), gr_If (fun x => x = 0) 49 45⟩,
  List.forall_mem_cons.mpr ⟨⟨sim_iload_n d201_45 rfl, gr_LdI 1 46⟩,
  List.forall_mem_cons.mpr ⟨⟨sim_goto d201_46 (by decide), gr_Go 54⟩,
  List.forall_mem_cons.mpr ⟨⟨sim_aload_n d201_49 rfl, gr_LdA 0 50⟩,
  List.forall_mem_cons.mpr ⟨⟨sim_iconst d201_50 (by decide), gr_Push (.int 3) 51⟩,
  List.forall_mem_cons.mpr ⟨⟨sim_virtual d201_51 vk99, gr_CalV (fun k => if k = 11 then some 132 else none) 1 54⟩,
  List.forall_mem_cons.mpr ⟨⟨sim_ireturn d201_54 rfl, gr_RetI⟩, fun _ h => absurd h List.not_mem_nil⟩⟩⟩⟩⟩⟩⟩⟩⟩⟩⟩⟩⟩⟩⟩⟩⟩⟩⟩⟩⟩⟩⟩⟩⟩⟩⟩⟩⟩⟩
noncomputable def pg201 : List (Nat × aP) := pg201_0
theorem ok201 : ∀ q ∈ pg201, Sim mT mt201 q.1 q.2 ∧ Grow q.2 := ok201_0
theorem d202_0 : decode mt202.2.1 0 = .ok (.aload_n 0, 1) := by decide +kernel
theorem d202_1 : decode mt202.2.1 1 = .ok (.getfield 321, 3) := by decide +kernel
theorem d202_4 : decode mt202.2.1 4 = .ok (.bipush 16, 2) := by decide +kernel
theorem d202_6 : decode mt202.2.1 6 = .ok (.if_icmp .ge 23, 3) := by decide +kernel
theorem d202_9 : decode mt202.2.1 9 = .ok (.aload_n 0, 1) := by decide +kernel
theorem d202_10 : decode mt202.2.1 10 = .ok (.getfield 71, 3) := by decide +kernel
theorem d202_13 : decode mt202.2.1 13 = .ok (.aload_n 0, 1) := by decide +kernel
theorem d202_14 : decode mt202.2.1 14 = .ok (.getfield 321, 3) := by decide +kernel
theorem d202_17 : decode mt202.2.1 17 = .ok (.iload_n 1, 1) := by decide +kernel
theorem d202_18 : decode mt202.2.1 18 = .ok (.iastore, 1) := by decide +kernel
theorem d202_19 : decode mt202.2.1 19 = .ok (.aload_n 0, 1) := by decide +kernel
theorem d202_20 : decode mt202.2.1 20 = .ok (.dup, 1) := by decide +kernel
theorem d202_21 : decode mt202.2.1 21 = .ok (.getfield 321, 3) := by decide +kernel
theorem d202_24 : decode mt202.2.1 24 = .ok (.iconst 1, 1) := by decide +kernel
theorem d202_25 : decode mt202.2.1 25 = .ok (.iadd, 1) := by decide +kernel
theorem d202_26 : decode mt202.2.1 26 = .ok (.putfield 321, 3) := by decide +kernel
theorem d202_29 : decode mt202.2.1 29 = .ok (.return_, 1) := by decide +kernel
noncomputable def pg202_0 : List (Nat × aP) := [(0, oLdA 0 1),
  (1, oGetI (fun k => k = 11) 36 4),
  (4, oPush (.int 16) 6),
  (6, oIc (fun x y => y ≤ x) 29 9),
  (9, oLdA 0 10),
  (10, oGetF (fun k => k = 11) 35 13),
  (13, oLdA 0 14),
  (14, oGetI (fun k => k = 11) 36 17),
  (17, oLdI 1 18),
  (18, oAStI 19),
  (19, oLdA 0 20),
  (20, oDup 21),
  (21, oGetI (fun k => k = 11) 36 24),
  (24, oPush (.int 1) 25),
  (25, oII (fun x y => x + y) 26),
  (26, oPutI (fun k => k = 11) 36 29),
  (29, oRetV)]
theorem ok202_0 : ∀ q ∈ pg202_0, Sim mT mt202 q.1 q.2 ∧ Grow q.2 :=
  List.forall_mem_cons.mpr ⟨⟨sim_aload_n d202_0 rfl, gr_LdA 0 1⟩,
  List.forall_mem_cons.mpr ⟨⟨sim_getI d202_1 gf189, gr_GetI (fun k => k = 11) 36 4⟩,
  List.forall_mem_cons.mpr ⟨⟨sim_bipush d202_4 (by decide), gr_Push (.int 16) 6⟩,
  List.forall_mem_cons.mpr ⟨⟨sim_icmp_ge d202_6 (by decide), gr_Ic (fun x y => y ≤ x) 29 9⟩,
  List.forall_mem_cons.mpr ⟨⟨sim_aload_n d202_9 rfl, gr_LdA 0 10⟩,
  List.forall_mem_cons.mpr ⟨⟨sim_getF d202_10 gf190, gr_GetF (fun k => k = 11) 35 13⟩,
  List.forall_mem_cons.mpr ⟨⟨sim_aload_n d202_13 rfl, gr_LdA 0 14⟩,
  List.forall_mem_cons.mpr ⟨⟨sim_getI d202_14 gf189, gr_GetI (fun k => k = 11) 36 17⟩,
  List.forall_mem_cons.mpr ⟨⟨sim_iload_n d202_17 rfl, gr_LdI 1 18⟩,
  List.forall_mem_cons.mpr ⟨⟨sim_iastore d202_18, gr_AStI 19⟩,
  List.forall_mem_cons.mpr ⟨⟨sim_aload_n d202_19 rfl, gr_LdA 0 20⟩,
  List.forall_mem_cons.mpr ⟨⟨sim_dup d202_20, gr_Dup 21⟩,
  List.forall_mem_cons.mpr ⟨⟨sim_getI d202_21 gf189, gr_GetI (fun k => k = 11) 36 24⟩,
  List.forall_mem_cons.mpr ⟨⟨sim_iconst d202_24 (by decide), gr_Push (.int 1) 25⟩,
  List.forall_mem_cons.mpr ⟨⟨sim_iadd d202_25, gr_II (fun x y => x + y) 26⟩,
  List.forall_mem_cons.mpr ⟨⟨sim_putI d202_26 gf189w, gr_PutI (fun k => k = 11) 36 29⟩,
  List.forall_mem_cons.mpr ⟨⟨sim_return d202_29 rfl, gr_RetV⟩, fun _ h => absurd h List.not_mem_nil⟩⟩⟩⟩⟩⟩⟩⟩⟩⟩⟩⟩⟩⟩⟩⟩⟩
noncomputable def pg202 : List (Nat × aP) := pg202_0
theorem ok202 : ∀ q ∈ pg202, Sim mT mt202 q.1 q.2 ∧ Grow q.2 := ok202_0
theorem d203_0 : decode mt203.2.1 0 = .ok (.aload_n 0, 1) := by decide +kernel
theorem d203_1 : decode mt203.2.1 1 = .ok (.bipush 10, 2) := by decide +kernel
theorem d203_3 : decode mt203.2.1 3 = .ok (.invokevirtual 324, 3) := by decide +kernel
theorem d203_6 : decode mt203.2.1 6 = .ok (.aload_n 0, 1) := by decide +kernel
theorem d203_7 : decode mt203.2.1 7 = .ok (.getfield 19, 3) := by decide +kernel
theorem d203_10 : decode mt203.2.1 10 = .ok (.iconst 4, 1) := by decide +kernel
theorem d203_11 : decode mt203.2.1 11 = .ok (.iload_n 1, 1) := by decide +kernel
theorem d203_12 : decode mt203.2.1 12 = .ok (.iadd, 1) := by decide +kernel
theorem d203_13 : decode mt203.2.1 13 = .ok (.iaload, 1) := by decide +kernel
theorem d203_14 : decode mt203.2.1 14 = .ok (.ifCond .ge 7, 3) := by decide +kernel
theorem d203_17 : decode mt203.2.1 17 = .ok (.iconst 0, 1) := by decide +kernel
theorem d203_18 : decode mt203.2.1 18 = .ok (.goto 11, 3) := by decide +kernel
theorem d203_21 : decode mt203.2.1 21 = .ok (.aload_n 0, 1) := by decide +kernel
theorem d203_22 : decode mt203.2.1 22 = .ok (.getfield 19, 3) := by decide +kernel
theorem d203_25 : decode mt203.2.1 25 = .ok (.iconst 4, 1) := by decide +kernel
theorem d203_26 : decode mt203.2.1 26 = .ok (.iload_n 1, 1) := by decide +kernel
theorem d203_27 : decode mt203.2.1 27 = .ok (.iadd, 1) := by decide +kernel
theorem d203_28 : decode mt203.2.1 28 = .ok (.iaload, 1) := by decide +kernel
theorem d203_29 : decode mt203.2.1 29 = .ok (.ireturn, 1) := by decide +kernel
noncomputable def pg203_0 : List (Nat × aP) := [(0, oLdA 0 1),
  (1, oPush (.int 10) 3),
  (3, oCalV (fun k => if k = 11 then some 202 else none) 1 6),
  (6, oLdA 0 7),
  (7, oGetF (fun k => k = 11) 5 10),
  (10, oPush (.int 4) 11),
  (11, oLdI 1 12),
  (12, oII (fun x y => x + y) 13),
  (13, oALdI 14),
  (14, oIf (fun x => 0 ≤ x) 21 17),
  (17, oPush (.int 0) 18),
  (18, oGo 29),
  (21, oLdA 0 22),
  (22, oGetF (fun k => k = 11) 5 25),
  (25, oPush (.int 4) 26),
  (26, oLdI 1 27),
  (27, oII (fun x y => x + y) 28),
  (28, oALdI 29),
  (29, oRetI)]
theorem ok203_0 : ∀ q ∈ pg203_0, Sim mT mt203 q.1 q.2 ∧ Grow q.2 :=
  List.forall_mem_cons.mpr ⟨⟨sim_aload_n d203_0 rfl, gr_LdA 0 1⟩,
  List.forall_mem_cons.mpr ⟨⟨sim_bipush d203_1 (by decide), gr_Push (.int 10) 3⟩,
  List.forall_mem_cons.mpr ⟨⟨sim_virtual d203_3 vk137, gr_CalV (fun k => if k = 11 then some 202 else none) 1 6⟩,
  List.forall_mem_cons.mpr ⟨⟨sim_aload_n d203_6 rfl, gr_LdA 0 7⟩,
  List.forall_mem_cons.mpr ⟨⟨sim_getF d203_7 gf171, gr_GetF (fun k => k = 11) 5 10⟩,
  List.forall_mem_cons.mpr ⟨⟨sim_iconst d203_10 (by decide), gr_Push (.int 4) 11⟩,
  List.forall_mem_cons.mpr ⟨⟨sim_iload_n d203_11 rfl, gr_LdI 1 12⟩,
  List.forall_mem_cons.mpr ⟨⟨sim_iadd d203_12, gr_II (fun x y => x + y) 13⟩,
  List.forall_mem_cons.mpr ⟨⟨sim_iaload d203_13, gr_ALdI 14⟩,
  List.forall_mem_cons.mpr ⟨⟨sim_if_ge d203_14 (by decide), gr_If (fun x => 0 ≤ x) 21 17⟩,
  List.forall_mem_cons.mpr ⟨⟨sim_iconst d203_17 (by decide), gr_Push (.int 0) 18⟩,
  List.forall_mem_cons.mpr ⟨⟨sim_goto d203_18 (by decide), gr_Go 29⟩,
  List.forall_mem_cons.mpr ⟨⟨sim_aload_n d203_21 rfl, gr_LdA 0 22⟩,
  List.forall_mem_cons.mpr ⟨⟨sim_getF d203_22 gf171, gr_GetF (fun k => k = 11) 5 25⟩,
  List.forall_mem_cons.mpr ⟨⟨sim_iconst d203_25 (by decide), gr_Push (.int 4) 26⟩,
  List.forall_mem_cons.mpr ⟨⟨sim_iload_n d203_26 rfl, gr_LdI 1 27⟩,
  List.forall_mem_cons.mpr ⟨⟨sim_iadd d203_27, gr_II (fun x y => x + y) 28⟩,
  List.forall_mem_cons.mpr ⟨⟨sim_iaload d203_28, gr_ALdI 29⟩,
  List.forall_mem_cons.mpr ⟨⟨sim_ireturn d203_29 rfl, gr_RetI⟩, fun _ h => absurd h List.not_mem_nil⟩⟩⟩⟩⟩⟩⟩⟩⟩⟩⟩⟩⟩⟩⟩⟩⟩⟩⟩
noncomputable def pg203 : List (Nat × aP) := pg203_0
theorem ok203 : ∀ q ∈ pg203, Sim mT mt203 q.1 q.2 ∧ Grow q.2 := ok203_0
theorem d204_0 : decode mt204.2.1 0 = .ok (.iload_n 2, 1) := by decide +kernel
theorem d204_1 : decode mt204.2.1 1 = .ok (.iconst 1, 1) := by decide +kernel
theorem d204_2 : decode mt204.2.1 2 = .ok (.if_icmp .eq 29, 3) := by decide +kernel
theorem d204_5 : decode mt204.2.1 5 = .ok (.aload_n 0, 1) := by decide +kernel
theorem d204_6 : decode mt204.2.1 6 = .ok (.iload_n 2, 1) := by decide +kernel
theorem d204_7 : decode mt204.2.1 7 = .ok (.iconst 2, 1) := by decide +kernel
theorem d204_8 : decode mt204.2.1 8 = .ok (.if_icmp .ne 8, 3) := by decide +kernel
theorem d204_11 : decode mt204.2.1 11 = .ok (.bipush 21, 2) := by decide +kernel
theorem d204_13 : decode mt204.2.1 13 = .ok (.goto 15, 3) := by decide +kernel
theorem d204_16 : decode mt204.2.1 16 = .ok (.iload_n 2, 1) := by decide +kernel
theorem d204_17 : decode mt204.2.1 17 = .ok (.iconst 4, 1) := by decide +kernel
theorem d204_18 : decode mt204.2.1 18 = .ok (.if_icmp .ne 8, 3) := by decide +kernel
theorem d204_21 : decode mt204.2.1 21 = .ok (.bipush 23, 2) := by decide +kernel
theorem d204_23 : decode mt204.2.1 23 = .ok (.goto 5, 3) := by decide +kernel
theorem d204_26 : decode mt204.2.1 26 = .ok (.bipush 22, 2) := by decide +kernel
theorem d204_28 : decode mt204.2.1 28 = .ok (.invokevirtual 324, 3) := by decide +kernel
theorem d204_31 : decode mt204.2.1 31 = .ok (.aload_n 0, 1) := by decide +kernel
theorem d204_32 : decode mt204.2.1 32 = .ok (.bipush 20, 2) := by decide +kernel
theorem d204_34 : decode mt204.2.1 34 = .ok (.invokevirtual 324, 3) := by decide +kernel
theorem d204_37 : decode mt204.2.1 37 = .ok (.iload_n 2, 1) := by decide +kernel
theorem d204_38 : decode mt204.2.1 38 = .ok (.iconst 2, 1) := by decide +kernel
theorem d204_39 : decode mt204.2.1 39 = .ok (.if_icmp .ne 15, 3) := by decide +kernel
theorem d204_42 : decode mt204.2.1 42 = .ok (.iload_n 1, 1) := by decide +kernel
theorem d204_43 : decode mt204.2.1 43 = .ok (.aload_n 0, 1) := by decide +kernel
theorem d204_44 : decode mt204.2.1 44 = .ok (.iload_n 1, 1) := by decide +kernel
theorem d204_45 : decode mt204.2.1 45 = .ok (.invokevirtual 327, 3) := by decide +kernel
theorem d204_48 : decode mt204.2.1 48 = .ok (.isub, 1) := by decide +kernel
theorem d204_49 : decode mt204.2.1 49 = .ok (.sipush 500, 3) := by decide +kernel
theorem d204_52 : decode mt204.2.1 52 = .ok (.isub, 1) := by decide +kernel
theorem d204_53 : decode mt204.2.1 53 = .ok (.ireturn, 1) := by decide +kernel
theorem d204_54 : decode mt204.2.1 54 = .ok (.iload_n 2, 1) := by decide +kernel
theorem d204_55 : decode mt204.2.1 55 = .ok (.iconst 1, 1) := by decide +kernel
theorem d204_56 : decode mt204.2.1 56 = .ok (.if_icmp .ne 7, 3) := by decide +kernel
theorem d204_59 : decode mt204.2.1 59 = .ok (.iload_n 1, 1) := by decide +kernel
theorem d204_60 : decode mt204.2.1 60 = .ok (.goto 24, 3) := by decide +kernel
theorem d204_63 : decode mt204.2.1 63 = .ok (.iload_n 2, 1) := by decide +kernel
theorem d204_64 : decode mt204.2.1 64 = .ok (.iconst 4, 1) := by decide +kernel
theorem d204_65 : decode mt204.2.1 65 = .ok (.if_icmp .ne 8, 3) := by decide +kernel
theorem d204_68 : decode mt204.2.1 68 = .ok (.iload_n 1, 1) := by decide +kernel
theorem d204_69 : decode mt204.2.1 69 = .ok (.ineg, 1) := by decide +kernel
theorem d204_70 : decode mt204.2.1 70 = .ok (.goto 14, 3) := by decide +kernel
theorem d204_73 : decode mt204.2.1 73 = .ok (.iload_n 1, 1) := by decide +kernel
theorem d204_74 : decode mt204.2.1 74 = .ok (.bipush 100, 2) := by decide +kernel
theorem d204_76 : decode mt204.2.1 76 = .ok (.aload_n 0, 1) := by decide +kernel
theorem d204_77 : decode mt204.2.1 77 = .ok (.getfield 32, 3) := by decide +kernel
theorem d204_80 : decode mt204.2.1 80 = .ok (.iload_n 1, 1) := by decide +kernel
theorem d204_81 : decode mt204.2.1 81 = .ok (.iaload, 1) := by decide +kernel
theorem d204_82 : decode mt204.2.1 82 = .ok (.imul, 1) := by decide +kernel
theorem d204_83 : decode mt204.2.1 83 = .ok (.iadd, 1) := by decide +kernel
theorem d204_84 : decode mt204.2.1 84 = .ok (.ireturn, 1) := by decide +kernel
noncomputable def pg204_0 : List (Nat × aP) := [(0, oLdI 2 1),
  (1, oPush (.int 1) 2),
  (2, oIc (fun x y => x = y) 31 5),
  (5, oLdA 0 6),
  (6, oLdI 2 7),
  (7, oPush (.int 2) 8),
  (8, oIc (fun x y => ¬ x = y) 16 11),
  (11, oPush (.int 21) 13),
  (13, oGo 28),
  (16, oLdI 2 17),
  (17, oPush (.int 4) 18),
  (18, oIc (fun x y => ¬ x = y) 26 21),
  (21, oPush (.int 23) 23),
  (23, oGo 28),
  (26, oPush (.int 22) 28),
  (28, oCalV (fun k => if k = 11 then some 202 else none) 1 31),
  (31, oLdA 0 32),
  (32, oPush (.int 20) 34),
  (34, oCalV (fun k => if k = 11 then some 202 else none) 1 37),
  (37, oLdI 2 38),
  (38, oPush (.int 2) 39),
  (39, oIc (fun x y => ¬ x = y) 54 42),
  (42, oLdI 1 43),
  (43, oLdA 0 44),
  (44, oLdI 1 45),
  (45, oCalV (fun k => if k = 11 then some 203 else none) 1 48),
  (48, oII (fun x y => x - y) 49),
  (49, oPush (.int 500) 52),
  (52, oII (fun x y => x - y) 53),
  (53, oRetI),
  (54, oLdI 2 55),
  (55, oPush (.int 1) 56),
  (56, oIc (fun x y => ¬ x = y) 63 59),
  (59, oLdI 1 60),
  (60, oGo 84),
  (63, oLdI 2 64),
  (64, oPush (.int 4) 65),
  (65, oIc (fun x y => ¬ x = y) 73 68),
  (68, oLdI 1 69),
  (69, oI (fun x => -x) 70)]
theorem ok204_0 : ∀ q ∈ pg204_0, Sim mT mt204 q.1 q.2 ∧ Grow q.2 :=
  List.forall_mem_cons.mpr ⟨⟨sim_iload_n d204_0 rfl, gr_LdI 2 1⟩,
  List.forall_mem_cons.mpr ⟨⟨sim_iconst d204_1 (by decide), gr_Push (.int 1) 2⟩,
  List.forall_mem_cons.mpr ⟨⟨sim_icmp_eq d204_2 (by decide), gr_Ic (fun x y => x = y) 31 5⟩,
  List.forall_mem_cons.mpr ⟨⟨sim_aload_n d204_5 rfl, gr_LdA 0 6⟩,
  List.forall_mem_cons.mpr ⟨⟨sim_iload_n d204_6 rfl, gr_LdI 2 7⟩,
  List.forall_mem_cons.mpr ⟨⟨sim_iconst d204_7 (by decide), gr_Push (.int 2) 8⟩,
  List.forall_mem_cons.mpr ⟨⟨sim_icmp_ne d204_8 (by decide), gr_Ic (fun x y => ¬ x = y) 16 11⟩,
  List.forall_mem_cons.mpr ⟨⟨sim_bipush d204_11 (by decide), gr_Push (.int 21) 13⟩,
  List.forall_mem_cons.mpr ⟨⟨sim_goto d204_13 (by decide), gr_Go 28⟩,
  List.forall_mem_cons.mpr ⟨⟨sim_iload_n d204_16 rfl, gr_LdI 2 17⟩,
  List.forall_mem_cons.mpr ⟨⟨sim_iconst d204_17 (by decide), gr_Push (.int 4) 18⟩,
  List.forall_mem_cons.mpr ⟨⟨sim_icmp_ne d204_18 (by decide), gr_Ic (fun x y => ¬ x = y) 26 21⟩,
  List.forall_mem_cons.mpr ⟨⟨sim_bipush d204_21 (by decide), gr_Push (.int 23) 23⟩,
  List.forall_mem_cons.mpr ⟨⟨sim_goto d204_23 (by decide), gr_Go 28⟩,
  List.forall_mem_cons.mpr ⟨⟨sim_bipush d204_26 (by decide), gr_Push (.int 22) 28⟩,
  List.forall_mem_cons.mpr ⟨⟨sim_virtual d204_28 vk137, gr_CalV (fun k => if k = 11 then some 202 else none) 1 31⟩,
  List.forall_mem_cons.mpr ⟨⟨sim_aload_n d204_31 rfl, gr_LdA 0 32⟩,
  List.forall_mem_cons.mpr ⟨⟨sim_bipush d204_32 (by decide), gr_Push (.int 20) 34⟩,
  List.forall_mem_cons.mpr ⟨⟨sim_virtual d204_34 vk137, gr_CalV (fun k => if k = 11 then some 202 else none) 1 37⟩,
  List.forall_mem_cons.mpr ⟨⟨sim_iload_n d204_37 rfl, gr_LdI 2 38⟩,
  List.forall_mem_cons.mpr ⟨⟨sim_iconst d204_38 (by decide), gr_Push (.int 2) 39⟩,
  List.forall_mem_cons.mpr ⟨⟨sim_icmp_ne d204_39 (by decide), gr_Ic (fun x y => ¬ x = y) 54 42⟩,
  List.forall_mem_cons.mpr ⟨⟨sim_iload_n d204_42 rfl, gr_LdI 1 43⟩,
  List.forall_mem_cons.mpr ⟨⟨sim_aload_n d204_43 rfl, gr_LdA 0 44⟩,
  List.forall_mem_cons.mpr ⟨⟨sim_iload_n d204_44 rfl, gr_LdI 1 45⟩,
  List.forall_mem_cons.mpr ⟨⟨sim_virtual d204_45 vk138, gr_CalV (fun k => if k = 11 then some 203 else none) 1 48⟩,
  List.forall_mem_cons.mpr ⟨⟨sim_isub d204_48, gr_II (fun x y => x - y) 49⟩,
  List.forall_mem_cons.mpr ⟨⟨sim_sipush d204_49 (by decide), gr_Push (.int 500) 52⟩,
  List.forall_mem_cons.mpr ⟨⟨sim_isub d204_52, gr_II (fun x y => x - y) 53⟩,
  List.forall_mem_cons.mpr ⟨⟨sim_ireturn d204_53 rfl, gr_RetI⟩,
  List.forall_mem_cons.mpr ⟨⟨sim_iload_n d204_54 rfl, gr_LdI 2 55⟩,
  List.forall_mem_cons.mpr ⟨⟨sim_iconst d204_55 (by decide), gr_Push (.int 1) 56⟩,
  List.forall_mem_cons.mpr ⟨⟨sim_icmp_ne d204_56 (by decide), gr_Ic (fun x y => ¬ x = y) 63 59⟩,
  List.forall_mem_cons.mpr ⟨⟨sim_iload_n d204_59 rfl, gr_LdI 1 60⟩,
  List.forall_mem_cons.mpr ⟨⟨sim_goto d204_60 (by decide), gr_Go 84⟩,
  List.forall_mem_cons.mpr ⟨⟨sim_iload_n d204_63 rfl, gr_LdI 2 64⟩,
  List.forall_mem_cons.mpr ⟨⟨sim_iconst d204_64 (by decide), gr_Push (.int 4) 65⟩,
  List.forall_mem_cons.mpr ⟨⟨sim_icmp_ne d204_65 (by decide), gr_Ic (fun x y => ¬ x = y) 73 68⟩,
  List.forall_mem_cons.mpr ⟨⟨sim_iload_n d204_68 rfl, gr_LdI 1 69⟩,
  List.forall_mem_cons.mpr ⟨⟨sim_ineg d204_69, gr_I (fun x => -x) 70⟩, fun _ h => absurd h List.not_mem_nil⟩⟩⟩⟩⟩⟩⟩⟩⟩⟩⟩⟩⟩⟩⟩⟩⟩⟩⟩⟩⟩⟩⟩⟩⟩⟩⟩⟩⟩⟩⟩⟩⟩⟩⟩⟩⟩⟩⟩⟩
noncomputable def pg204_1 : List (Nat × aP) := [(70, oGo 84),
  (73, oLdI 1 74),
  (74, oPush (.int 100) 76),
  (76, oLdA 0 77),
  (77, oGetF (fun k => k = 11) 19 80),
  (80, oLdI 1 81),
  (81, oALdI 82),
  (82, oII (fun x y => x * y) 83),
  (83, oII (fun x y => x + y) 84),
  (84, oRetI)]
theorem ok204_1 : ∀ q ∈ pg204_1, Sim mT mt204 q.1 q.2 ∧ Grow q.2 :=
  List.forall_mem_cons.mpr ⟨⟨sim_goto d204_70 (by decide), gr_Go 84⟩,
  List.forall_mem_cons.mpr ⟨⟨sim_iload_n d204_73 rfl, gr_LdI 1 74⟩,
  List.forall_mem_cons.mpr ⟨⟨sim_bipush d204_74 (by decide), gr_Push (.int 100) 76⟩,
  List.forall_mem_cons.mpr ⟨⟨sim_aload_n d204_76 rfl, gr_LdA 0 77⟩,
  List.forall_mem_cons.mpr ⟨⟨sim_getF d204_77 gf174, gr_GetF (fun k => k = 11) 19 80⟩,
  List.forall_mem_cons.mpr ⟨⟨sim_iload_n d204_80 rfl, gr_LdI 1 81⟩,
  List.forall_mem_cons.mpr ⟨⟨sim_iaload d204_81, gr_ALdI 82⟩,
  List.forall_mem_cons.mpr ⟨⟨sim_imul d204_82, gr_II (fun x y => x * y) 83⟩,
  List.forall_mem_cons.mpr ⟨⟨sim_iadd d204_83, gr_II (fun x y => x + y) 84⟩,
  List.forall_mem_cons.mpr ⟨⟨sim_ireturn d204_84 rfl, gr_RetI⟩, fun _ h => absurd h List.not_mem_nil⟩⟩⟩⟩⟩⟩⟩⟩⟩⟩
noncomputable def pg204 : List (Nat × aP) := pg204_0 ++ (pg204_1)
theorem ok204 : ∀ q ∈ pg204, Sim mT mt204 q.1 q.2 ∧ Grow q.2 := List.forall_mem_append.mpr ⟨ok204_0, ok204_1⟩
theorem d205_0 : decode mt205.2.1 0 = .ok (.iload_n 2, 1) := by decide +kernel
theorem d205_1 : decode mt205.2.1 1 = .ok (.iconst 2, 1) := by decide +kernel
theorem d205_2 : decode mt205.2.1 2 = .ok (.if_icmp .ne 9, 3) := by decide +kernel
theorem d205_5 : decode mt205.2.1 5 = .ok (.aload_n 0, 1) := by decide +kernel
theorem d205_6 : decode mt205.2.1 6 = .ok (.iload_n 1, 1) := by decide +kernel
theorem d205_7 : decode mt205.2.1 7 = .ok (.invokevirtual 327, 3) := by decide +kernel
theorem d205_10 : decode mt205.2.1 10 = .ok (.ireturn, 1) := by decide +kernel
theorem d205_11 : decode mt205.2.1 11 = .ok (.iload_n 2, 1) := by decide +kernel
theorem d205_12 : decode mt205.2.1 12 = .ok (.iconst 5, 1) := by decide +kernel
theorem d205_13 : decode mt205.2.1 13 = .ok (.if_icmp .ne 9, 3) := by decide +kernel
theorem d205_16 : decode mt205.2.1 16 = .ok (.aload_n 0, 1) := by decide +kernel
theorem d205_17 : decode mt205.2.1 17 = .ok (.bipush 14, 2) := by decide +kernel
theorem d205_19 : decode mt205.2.1 19 = .ok (.invokevirtual 324, 3) := by decide +kernel
theorem d205_22 : decode mt205.2.1 22 = .ok (.iload_n 2, 1) := by decide +kernel
theorem d205_23 : decode mt205.2.1 23 = .ok (.iconst 1, 1) := by decide +kernel
theorem d205_24 : decode mt205.2.1 24 = .ok (.if_icmp .eq 19, 3) := by decide +kernel
theorem d205_27 : decode mt205.2.1 27 = .ok (.aload_n 0, 1) := by decide +kernel
theorem d205_28 : decode mt205.2.1 28 = .ok (.iload_n 2, 1) := by decide +kernel
theorem d205_29 : decode mt205.2.1 29 = .ok (.iconst 4, 1) := by decide +kernel
theorem d205_30 : decode mt205.2.1 30 = .ok (.if_icmp .ne 8, 3) := by decide +kernel
theorem d205_33 : decode mt205.2.1 33 = .ok (.bipush 13, 2) := by decide +kernel
theorem d205_35 : decode mt205.2.1 35 = .ok (.goto 5, 3) := by decide +kernel
theorem d205_38 : decode mt205.2.1 38 = .ok (.bipush 12, 2) := by decide +kernel
theorem d205_40 : decode mt205.2.1 40 = .ok (.invokevirtual 324, 3) := by decide +kernel
theorem d205_43 : decode mt205.2.1 43 = .ok (.aload_n 0, 1) := by decide +kernel
theorem d205_44 : decode mt205.2.1 44 = .ok (.bipush 11, 2) := by decide +kernel
theorem d205_46 : decode mt205.2.1 46 = .ok (.invokevirtual 324, 3) := by decide +kernel
theorem d205_49 : decode mt205.2.1 49 = .ok (.aload_n 0, 1) := by decide +kernel
theorem d205_50 : decode mt205.2.1 50 = .ok (.iload_n 1, 1) := by decide +kernel
theorem d205_51 : decode mt205.2.1 51 = .ok (.invokevirtual 327, 3) := by decide +kernel
theorem d205_54 : decode mt205.2.1 54 = .ok (.istore_n 3, 1) := by decide +kernel
theorem d205_55 : decode mt205.2.1 55 = .ok (.iload_n 3, 1) := by decide +kernel
theorem d205_56 : decode mt205.2.1 56 = .ok (.aload_n 0, 1) := by decide +kernel
theorem d205_57 : decode mt205.2.1 57 = .ok (.iload_n 1, 1) := by decide +kernel
theorem d205_58 : decode mt205.2.1 58 = .ok (.iload_n 2, 1) := by decide +kernel
theorem d205_59 : decode mt205.2.1 59 = .ok (.invokevirtual 330, 3) := by decide +kernel
theorem d205_62 : decode mt205.2.1 62 = .ok (.iadd, 1) := by decide +kernel
theorem d205_63 : decode mt205.2.1 63 = .ok (.istore_n 3, 1) := by decide +kernel
theorem d205_64 : decode mt205.2.1 64 = .ok (.iload_n 2, 1) := by decide +kernel
theorem d205_65 : decode mt205.2.1 65 = .ok (.iconst 1, 1) := by decide +kernel
theorem d205_66 : decode mt205.2.1 66 = .ok (.if_icmp .ne 7, 3) := by decide +kernel
theorem d205_69 : decode mt205.2.1 69 = .ok (.iload_n 3, 1) := by decide +kernel
theorem d205_70 : decode mt205.2.1 70 = .ok (.goto 31, 3) := by decide +kernel
theorem d205_73 : decode mt205.2.1 73 = .ok (.iload_n 2, 1) := by decide +kernel
theorem d205_74 : decode mt205.2.1 74 = .ok (.iconst 4, 1) := by decide +kernel
theorem d205_75 : decode mt205.2.1 75 = .ok (.if_icmp .ne 11, 3) := by decide +kernel
theorem d205_78 : decode mt205.2.1 78 = .ok (.iload_n 3, 1) := by decide +kernel
theorem d205_79 : decode mt205.2.1 79 = .ok (.sipush 1000, 3) := by decide +kernel
theorem d205_82 : decode mt205.2.1 82 = .ok (.iadd, 1) := by decide +kernel
theorem d205_83 : decode mt205.2.1 83 = .ok (.goto 18, 3) := by decide +kernel
theorem d205_86 : decode mt205.2.1 86 = .ok (.iload_n 2, 1) := by decide +kernel
theorem d205_87 : decode mt205.2.1 87 = .ok (.iconst 3, 1) := by decide +kernel
theorem d205_88 : decode mt205.2.1 88 = .ok (.if_icmp .ne 9, 3) := by decide +kernel
theorem d205_91 : decode mt205.2.1 91 = .ok (.iconst 2, 1) := by decide +kernel
theorem d205_92 : decode mt205.2.1 92 = .ok (.iload_n 3, 1) := by decide +kernel
theorem d205_93 : decode mt205.2.1 93 = .ok (.imul, 1) := by decide +kernel
theorem d205_94 : decode mt205.2.1 94 = .ok (.goto 7, 3) := by decide +kernel
theorem d205_97 : decode mt205.2.1 97 = .ok (.bipush (-2), 2) := by decide +kernel
theorem d205_99 : decode mt205.2.1 99 = .ok (.iload_n 3, 1) := by decide +kernel
theorem d205_100 : decode mt205.2.1 100 = .ok (.imul, 1) := by decide +kernel
theorem d205_101 : decode mt205.2.1 101 = .ok (.ireturn, 1) := by decide +kernel
noncomputable def pg205_0 : List (Nat × aP) := [(0, oLdI 2 1),
  (1, oPush (.int 2) 2),
  (2, oIc (fun x y => ¬ x = y) 11 5),
  (5, oLdA 0 6),
  (6, oLdI 1 7),
  (7, oCalV (fun k => if k = 11 then some 203 else none) 1 10),
  (10, oRetI),
  (11, oLdI 2 12),
  (12, oPush (.int 5) 13),
  (13, oIc (fun x y => ¬ x = y) 22 16),
  (16, oLdA 0 17),
  (17, oPush (.int 14) 19),
  (19, oCalV (fun k => if k = 11 then some 202 else none) 1 22),
  (22, oLdI 2 23),
  (23, oPush (.int 1) 24),
  (24, oIc (fun x y => x = y) 43 27),
  (27, oLdA 0 28),
  (28, oLdI 2 29),
  (29, oPush (.int 4) 30),
  (30, oIc (fun x y => ¬ x = y) 38 33),
  (33, oPush (.int 13) 35),
  (35, oGo 40),
  (38, oPush (.int 12) 40),
  (40, oCalV (fun k => if k = 11 then some 202 else none) 1 43),
  (43, oLdA 0 44),
  (44, oPush (.int 11) 46),
  (46, oCalV (fun k => if k = 11 then some 202 else none) 1 49),
  (49, oLdA 0 50),
  (50, oLdI 1 51),
  (51, oCalV (fun k => if k = 11 then some 203 else none) 1 54),
  (54, oStI 3 55),
  (55, oLdI 3 56),
  (56, oLdA 0 57),
  (57, oLdI 1 58),
  (58, oLdI 2 59),
  (59, oCalV (fun k => if k = 11 then some 204 else none) 2 62),
  (62, oII (fun x y => x + y) 63),
  (63, oStI 3 64),
  (64, oLdI 2 65),
  (65, oPush (.int 1) 66)]
theorem ok205_0 : ∀ q ∈ pg205_0, Sim mT mt205 q.1 q.2 ∧ Grow q.2 :=
  List.forall_mem_cons.mpr ⟨⟨sim_iload_n d205_0 rfl, gr_LdI 2 1⟩,
  List.forall_mem_cons.mpr ⟨⟨sim_iconst d205_1 (by decide), gr_Push (.int 2) 2⟩,
  List.forall_mem_cons.mpr ⟨⟨sim_icmp_ne d205_2 (by decide), gr_Ic (fun x y => ¬ x = y) 11 5⟩,
  List.forall_mem_cons.mpr ⟨⟨sim_aload_n d205_5 rfl, gr_LdA 0 6⟩,
  List.forall_mem_cons.mpr ⟨⟨sim_iload_n d205_6 rfl, gr_LdI 1 7⟩,
  List.forall_mem_cons.mpr ⟨⟨sim_virtual d205_7 vk138, gr_CalV (fun k => if k = 11 then some 203 else none) 1 10⟩,
  List.forall_mem_cons.mpr ⟨⟨sim_ireturn d205_10 rfl, gr_RetI⟩,
  List.forall_mem_cons.mpr ⟨⟨sim_iload_n d205_11 rfl, gr_LdI 2 12⟩,
  List.forall_mem_cons.mpr ⟨⟨sim_iconst d205_12 (by decide), gr_Push (.int 5) 13⟩,
  List.forall_mem_cons.mpr ⟨⟨sim_icmp_ne d205_13 (by decide), gr_Ic (fun x y => ¬ x = y) 22 16⟩,
  List.forall_mem_cons.mpr ⟨⟨sim_aload_n d205_16 rfl, gr_LdA 0 17⟩,
  List.forall_mem_cons.mpr ⟨⟨sim_bipush d205_17 (by decide), gr_Push (.int 14) 19⟩,
  List.forall_mem_cons.mpr ⟨⟨sim_virtual d205_19 vk137, gr_CalV (fun k => if k = 11 then some 202 else none) 1 22⟩,
  List.forall_mem_cons.mpr ⟨⟨sim_iload_n d205_22 rfl, gr_LdI 2 23⟩,
  List.forall_mem_cons.mpr ⟨⟨sim_iconst d205_23 (by decide), gr_Push (.int 1) 24⟩,
  List.forall_mem_cons.mpr ⟨⟨sim_icmp_eq d205_24 (by decide), gr_Ic (fun x y => x = y) 43 27⟩,
  List.forall_mem_cons.mpr ⟨⟨sim_aload_n d205_27 rfl, gr_LdA 0 28⟩,
  List.forall_mem_cons.mpr ⟨⟨sim_iload_n d205_28 rfl, gr_LdI 2 29⟩,
  List.forall_mem_cons.mpr ⟨⟨sim_iconst d205_29 (by decide), gr_Push (.int 4) 30⟩,
  List.forall_mem_cons.mpr ⟨⟨sim_icmp_ne d205_30 (by decide), gr_Ic (fun x y => ¬ x = y) 38 33⟩,
  List.forall_mem_cons.mpr ⟨⟨sim_bipush d205_33 (by decide), gr_Push (.int 13) 35⟩,
  List.forall_mem_cons.mpr ⟨⟨sim_goto d205_35 (by decide), gr_Go 40⟩,
  List.forall_mem_cons.mpr ⟨⟨sim_bipush d205_38 (by decide), gr_Push (.int 12) 40⟩,
  List.forall_mem_cons.mpr ⟨⟨sim_virtual d205_40 vk137, gr_CalV (fun k => if k = 11 then some 202 else none) 1 43⟩,
  List.forall_mem_cons.mpr ⟨⟨sim_aload_n d205_43 rfl, gr_LdA 0 44⟩,
  List.forall_mem_cons.mpr ⟨⟨sim_bipush d205_44 (by decide), gr_Push (.int 11) 46⟩,
  List.forall_mem_cons.mpr ⟨⟨sim_virtual d205_46 vk137, gr_CalV (fun k => if k = 11 then some 202 else none) 1 49⟩,
  List.forall_mem_cons.mpr ⟨⟨sim_aload_n d205_49 rfl, gr_LdA 0 50⟩,
  List.forall_mem_cons.mpr ⟨⟨sim_iload_n d205_50 rfl, gr_LdI 1 51⟩,
  List.forall_mem_cons.mpr ⟨⟨sim_virtual d205_51 vk138, gr_CalV (fun k => if k = 11 then some 203 else none) 1 54⟩,
  List.forall_mem_cons.mpr ⟨⟨sim_istore_n d205_54 rfl (by decide), gr_StI 3 55⟩,
  List.forall_mem_cons.mpr ⟨⟨sim_iload_n d205_55 rfl, gr_LdI 3 56⟩,
  List.forall_mem_cons.mpr ⟨⟨sim_aload_n d205_56 rfl, gr_LdA 0 57⟩,
  List.forall_mem_cons.mpr ⟨⟨sim_iload_n d205_57 rfl, gr_LdI 1 58⟩,
  List.forall_mem_cons.mpr ⟨⟨sim_iload_n d205_58 rfl, gr_LdI 2 59⟩,
  List.forall_mem_cons.mpr ⟨⟨sim_virtual d205_59 vk139, gr_CalV (fun k => if k = 11 then some 204 else none) 2 62⟩,
  List.forall_mem_cons.mpr ⟨⟨sim_iadd d205_62, gr_II (fun x y => x + y) 63⟩,
  List.forall_mem_cons.mpr ⟨⟨sim_istore_n d205_63 rfl (by decide), gr_StI 3 64⟩,
  List.forall_mem_cons.mpr ⟨⟨sim_iload_n d205_64 rfl, gr_LdI 2 65⟩,
  List.forall_mem_cons.mpr ⟨⟨sim_iconst d205_65 (by decide), gr_Push (.int 1) 66⟩, fun _ h => absurd h List.not_mem_nil⟩⟩⟩⟩⟩⟩⟩⟩⟩⟩⟩⟩⟩⟩⟩⟩⟩⟩⟩⟩⟩⟩⟩⟩⟩⟩⟩⟩⟩⟩⟩⟩⟩⟩⟩⟩⟩⟩⟩⟩
noncomputable def pg205_1 : List (Nat × aP) := [(66, oIc (fun x y => ¬ x = y) 73 69),
  (69, oLdI 3 70),
  (70, oGo 101),
  (73, oLdI 2 74),
  (74, oPush (.int 4) 75),
  (75, oIc (fun x y => ¬ x = y) 86 78),
  (78, oLdI 3 79),
  (79, oPush (.int 1000) 82),
  (82, oII (fun x y => x + y) 83),
  (83, oGo 101),
  (86, oLdI 2 87),
  (87, oPush (.int 3) 88),
  (88, oIc (fun x y => ¬ x = y) 97 91),
  (91, oPush (.int 2) 92),
  (92, oLdI 3 93),
  (93, oII (fun x y => x * y) 94),
  (94, oGo 101),
  (97, oPush (.int (-2)) 99),
  (99, oLdI 3 100),
  (100, oII (fun x y => x * y) 101),
  (101, oRetI)]
theorem ok205_1 : ∀ q ∈ pg205_1, Sim mT mt205 q.1 q.2 ∧ Grow q.2 :=
  List.forall_mem_cons.mpr ⟨⟨sim_icmp_ne d205_66 (by decide), gr_Ic (fun x y => ¬ x = y) 73 69⟩,
  List.forall_mem_cons.mpr ⟨⟨sim_iload_n d205_69 rfl, gr_LdI 3 70⟩,
  List.forall_mem_cons.mpr ⟨⟨sim_goto d205_70 (by decide), gr_Go 101⟩,
  List.forall_mem_cons.mpr ⟨⟨sim_iload_n d205_73 rfl, gr_LdI 2 74⟩,
  List.forall_mem_cons.mpr ⟨⟨sim_iconst d205_74 (by decide), gr_Push (.int 4) 75⟩,
  List.forall_mem_cons.mpr ⟨⟨sim_icmp_ne d205_75 (by decide), gr_Ic (fun x y => ¬ x = y) 86 78⟩,
  List.forall_mem_cons.mpr ⟨⟨sim_iload_n d205_78 rfl, gr_LdI 3 79⟩,
  List.forall_mem_cons.mpr ⟨⟨sim_sipush d205_79 (by decide), gr_Push (.int 1000) 82⟩,
  List.forall_mem_cons.mpr ⟨⟨sim_iadd d205_82, gr_II (fun x y => x + y) 83⟩,
  List.forall_mem_cons.mpr ⟨⟨sim_goto d205_83 (by decide), gr_Go 101⟩,
  List.forall_mem_cons.mpr ⟨⟨sim_iload_n d205_86 rfl, gr_LdI 2 87⟩,
  List.forall_mem_cons.mpr ⟨⟨sim_iconst d205_87 (by decide), gr_Push (.int 3) 88⟩,
  List.forall_mem_cons.mpr ⟨⟨sim_icmp_ne d205_88 (by decide), gr_Ic (fun x y => ¬ x = y) 97 91⟩,
  List.forall_mem_cons.mpr ⟨⟨sim_iconst d205_91 (by decide), gr_Push (.int 2) 92⟩,
  List.forall_mem_cons.mpr ⟨⟨sim_iload_n d205_92 rfl, gr_LdI 3 93⟩,
  List.forall_mem_cons.mpr ⟨⟨sim_imul d205_93, gr_II (fun x y => x * y) 94⟩,
  List.forall_mem_cons.mpr ⟨⟨sim_goto d205_94 (by decide), gr_Go 101⟩,
  List.forall_mem_cons.mpr ⟨⟨sim_bipush d205_97 (by decide), gr_Push (.int (-2)) 99⟩,
  List.forall_mem_cons.mpr ⟨⟨sim_iload_n d205_99 rfl, gr_LdI 3 100⟩,
  List.forall_mem_cons.mpr ⟨⟨sim_imul d205_100, gr_II (fun x y => x * y) 101⟩,
  List.forall_mem_cons.mpr ⟨⟨sim_ireturn d205_101 rfl, gr_RetI⟩, fun _ h => absurd h List.not_mem_nil⟩⟩⟩⟩⟩⟩⟩⟩⟩⟩⟩⟩⟩⟩⟩⟩⟩⟩⟩⟩⟩
noncomputable def pg205 : List (Nat × aP) := pg205_0 ++ (pg205_1)
theorem ok205 : ∀ q ∈ pg205, Sim mT mt205 q.1 q.2 ∧ Grow q.2 := List.forall_mem_append.mpr ⟨ok205_0, ok205_1⟩
theorem d206_0 : decode mt206.2.1 0 = .ok (.aload_n 0, 1) := by decide +kernel
theorem d206_1 : decode mt206.2.1 1 = .ok (.iconst 0, 1) := by decide +kernel
theorem d206_2 : decode mt206.2.1 2 = .ok (.putfield 74, 3) := by decide +kernel
theorem d206_5 : decode mt206.2.1 5 = .ok (.aload_n 0, 1) := by decide +kernel
theorem d206_6 : decode mt206.2.1 6 = .ok (.iload_n 1, 1) := by decide +kernel
theorem d206_7 : decode mt206.2.1 7 = .ok (.invokevirtual 267, 3) := by decide +kernel
theorem d206_10 : decode mt206.2.1 10 = .ok (.ifCond .eq 13, 3) := by decide +kernel
theorem d206_13 : decode mt206.2.1 13 = .ok (.iload_n 2, 1) := by decide +kernel
theorem d206_14 : decode mt206.2.1 14 = .ok (.i2l, 1) := by decide +kernel
theorem d206_15 : decode mt206.2.1 15 = .ok (.lconst 0, 1) := by decide +kernel
theorem d206_16 : decode mt206.2.1 16 = .ok (.lconst 1, 1) := by decide +kernel
theorem d206_17 : decode mt206.2.1 17 = .ok (.invokestatic 84, 3) := by decide +kernel
theorem d206_20 : decode mt206.2.1 20 = .ok (.ifCond .ne 6, 3) := by decide +kernel
theorem d206_23 : decode mt206.2.1 23 = .ok (.ldc 94, 2) := by decide +kernel
theorem d206_25 : decode mt206.2.1 25 = .ok (.ireturn, 1) := by decide +kernel
theorem d206_26 : decode mt206.2.1 26 = .ok (.aload_n 0, 1) := by decide +kernel
theorem d206_27 : decode mt206.2.1 27 = .ok (.iconst 0, 1) := by decide +kernel
theorem d206_28 : decode mt206.2.1 28 = .ok (.putfield 321, 3) := by decide +kernel
theorem d206_31 : decode mt206.2.1 31 = .ok (.iload_n 2, 1) := by decide +kernel
theorem d206_32 : decode mt206.2.1 32 = .ok (.ifCond .ne 16, 3) := by decide +kernel
theorem d206_35 : decode mt206.2.1 35 = .ok (.aload_n 0, 1) := by decide +kernel
theorem d206_36 : decode mt206.2.1 36 = .ok (.iload_n 1, 1) := by decide +kernel
theorem d206_37 : decode mt206.2.1 37 = .ok (.aload_n 0, 1) := by decide +kernel
theorem d206_38 : decode mt206.2.1 38 = .ok (.iload_n 1, 1) := by decide +kernel
theorem d206_39 : decode mt206.2.1 39 = .ok (.invokevirtual 313, 3) := by decide +kernel
theorem d206_42 : decode mt206.2.1 42 = .ok (.invokevirtual 333, 3) := by decide +kernel
theorem d206_45 : decode mt206.2.1 45 = .ok (.goto 13, 3) := by decide +kernel
theorem d206_48 : decode mt206.2.1 48 = .ok (.aload_n 0, 1) := by decide +kernel
theorem d206_49 : decode mt206.2.1 49 = .ok (.iload_n 1, 1) := by decide +kernel
theorem d206_50 : decode mt206.2.1 50 = .ok (.aload_n 0, 1) := by decide +kernel
theorem d206_51 : decode mt206.2.1 51 = .ok (.iload_n 1, 1) := by decide +kernel
theorem d206_52 : decode mt206.2.1 52 = .ok (.invokevirtual 313, 3) := by decide +kernel
theorem d206_55 : decode mt206.2.1 55 = .ok (.invokevirtual 330, 3) := by decide +kernel
theorem d206_58 : decode mt206.2.1 58 = .ok (.ireturn, 1) := by decide +kernel
noncomputable def pg206_0 : List (Nat × aP) := [(0, oLdA 0 1),
  (1, oPush (.int 0) 2),
  (2, oPutI (fun k => k = 11) 0 5),
  (5, oLdA 0 6),
  (6, oLdI 1 7),
  (7, oCalV (fun k => if k = 11 then some 159 else none) 1 10),
  (10, oIf (fun x => x = 0) 23 13),
  (13, oLdI 2 14),
  (14, oIL (fun x => x.toInt64) 15),
  (15, oPush (.long 0) 16),
  (16, oPush (.long 1) 17),
  (17, oCall 131 3 20),
  (20, oIf (fun x => ¬ x = 0) 26 23),
  (23, oPush (.int (-1000001)) 25),
  (25, oRetI),
  (26, oLdA 0 27),
  (27, oPush (.int 0) 28),
  (28, oPutI (fun k => k = 11) 36 31),
  (31, oLdI 2 32),
  (32, oIf (fun x => ¬ x = 0) 48 35),
  (35, oLdA 0 36),
  (36, oLdI 1 37),
  (37, oLdA 0 38),
  (38, oLdI 1 39),
  (39, oCalV (fun k => if k = 11 then some 198 else none) 1 42),
  (42, oCalV (fun k => if k = 11 then some 205 else none) 2 45),
  (45, oGo 58),
  (48, oLdA 0 49),
  (49, oLdI 1 50),
  (50, oLdA 0 51),
  (51, oLdI 1 52),
  (52, oCalV (fun k => if k = 11 then some 198 else none) 1 55),
  (55, oCalV (fun k => if k = 11 then some 204 else none) 2 58),
  (58, oRetI)]
theorem ok206_0 : ∀ q ∈ pg206_0, Sim mT mt206 q.1 q.2 ∧ Grow q.2 :=
  List.forall_mem_cons.mpr ⟨⟨sim_aload_n d206_0 rfl, gr_LdA 0 1⟩,
  List.forall_mem_cons.mpr ⟨⟨sim_iconst d206_1 (by decide), gr_Push (.int 0) 2⟩,
  List.forall_mem_cons.mpr ⟨⟨sim_putI d206_2 gf155w, gr_PutI (fun k => k = 11) 0 5⟩,
  List.forall_mem_cons.mpr ⟨⟨sim_aload_n d206_5 rfl, gr_LdA 0 6⟩,
  List.forall_mem_cons.mpr ⟨⟨sim_iload_n d206_6 rfl, gr_LdI 1 7⟩,
  List.forall_mem_cons.mpr ⟨⟨sim_virtual d206_7 vk128, gr_CalV (fun k => if k = 11 then some 159 else none) 1 10⟩,
  List.forall_mem_cons.mpr ⟨⟨sim_if_eq d206_10 (by decide), gr_If (fun x => x = 0) 23 13⟩,
  List.forall_mem_cons.mpr ⟨⟨sim_iload_n d206_13 rfl, gr_LdI 2 14⟩,
  List.forall_mem_cons.mpr ⟨⟨sim_i2l d206_14, gr_IL (fun x => x.toInt64) 15⟩,
  List.forall_mem_cons.mpr ⟨⟨sim_lconst d206_15 (by decide), gr_Push (.long 0) 16⟩,
  List.forall_mem_cons.mpr ⟨⟨sim_lconst d206_16 (by decide), gr_Push (.long 1) 17⟩,
  List.forall_mem_cons.mpr ⟨⟨sim_static (y := 131) d206_17 (Or.inl kw1038) kw1039 mo131, gr_Call 131 3 20⟩,
  List.forall_mem_cons.mpr ⟨⟨sim_if_ne d206_20 (by decide), gr_If (fun x => ¬ x = 0) 26 23⟩,
  List.forall_mem_cons.mpr ⟨⟨sim_ldc d206_23 kw1042, gr_Push (.int (-1000001)) 25⟩,
  List.forall_mem_cons.mpr ⟨⟨sim_ireturn d206_25 rfl, gr_RetI⟩,
  List.forall_mem_cons.mpr ⟨⟨sim_aload_n d206_26 rfl, gr_LdA 0 27⟩,
  List.forall_mem_cons.mpr ⟨⟨sim_iconst d206_27 (by decide), gr_Push (.int 0) 28⟩,
  List.forall_mem_cons.mpr ⟨⟨sim_putI d206_28 gf189w, gr_PutI (fun k => k = 11) 36 31⟩,
  List.forall_mem_cons.mpr ⟨⟨sim_iload_n d206_31 rfl, gr_LdI 2 32⟩,
  List.forall_mem_cons.mpr ⟨⟨sim_if_ne d206_32 (by decide), gr_If (fun x => ¬ x = 0) 48 35⟩,
  List.forall_mem_cons.mpr ⟨⟨sim_aload_n d206_35 rfl, gr_LdA 0 36⟩,
  List.forall_mem_cons.mpr ⟨⟨sim_iload_n d206_36 rfl, gr_LdI 1 37⟩,
  List.forall_mem_cons.mpr ⟨⟨sim_aload_n d206_37 rfl, gr_LdA 0 38⟩,
  List.forall_mem_cons.mpr ⟨⟨sim_iload_n d206_38 rfl, gr_LdI 1 39⟩,
  List.forall_mem_cons.mpr ⟨⟨sim_virtual d206_39 vk136, gr_CalV (fun k => if k = 11 then some 198 else none) 1 42⟩,
  List.forall_mem_cons.mpr ⟨⟨sim_virtual d206_42 vk140, gr_CalV (fun k => if k = 11 then some 205 else none) 2 45⟩,
  List.forall_mem_cons.mpr ⟨⟨sim_goto d206_45 (by decide), gr_Go 58⟩,
  List.forall_mem_cons.mpr ⟨⟨sim_aload_n d206_48 rfl, gr_LdA 0 49⟩,
  List.forall_mem_cons.mpr ⟨⟨sim_iload_n d206_49 rfl, gr_LdI 1 50⟩,
  List.forall_mem_cons.mpr ⟨⟨sim_aload_n d206_50 rfl, gr_LdA 0 51⟩,
  List.forall_mem_cons.mpr ⟨⟨sim_iload_n d206_51 rfl, gr_LdI 1 52⟩,
  List.forall_mem_cons.mpr ⟨⟨sim_virtual d206_52 vk136, gr_CalV (fun k => if k = 11 then some 198 else none) 1 55⟩,
  List.forall_mem_cons.mpr ⟨⟨sim_virtual d206_55 vk139, gr_CalV (fun k => if k = 11 then some 204 else none) 2 58⟩,
  List.forall_mem_cons.mpr ⟨⟨sim_ireturn d206_58 rfl, gr_RetI⟩, fun _ h => absurd h List.not_mem_nil⟩⟩⟩⟩⟩⟩⟩⟩⟩⟩⟩⟩⟩⟩⟩⟩⟩⟩⟩⟩⟩⟩⟩⟩⟩⟩⟩⟩⟩⟩⟩⟩⟩⟩
noncomputable def pg206 : List (Nat × aP) := pg206_0
theorem ok206 : ∀ q ∈ pg206, Sim mT mt206 q.1 q.2 ∧ Grow q.2 := ok206_0
theorem d207_0 : decode mt207.2.1 0 = .ok (.aload_n 0, 1) := by decide +kernel
theorem d207_1 : decode mt207.2.1 1 = .ok (.iconst 0, 1) := by decide +kernel
theorem d207_2 : decode mt207.2.1 2 = .ok (.putfield 74, 3) := by decide +kernel
theorem d207_5 : decode mt207.2.1 5 = .ok (.iload_n 1, 1) := by decide +kernel
theorem d207_6 : decode mt207.2.1 6 = .ok (.i2l, 1) := by decide +kernel
theorem d207_7 : decode mt207.2.1 7 = .ok (.lconst 0, 1) := by decide +kernel
theorem d207_8 : decode mt207.2.1 8 = .ok (.aload_n 0, 1) := by decide +kernel
theorem d207_9 : decode mt207.2.1 9 = .ok (.getfield 321, 3) := by decide +kernel
theorem d207_12 : decode mt207.2.1 12 = .ok (.iconst 1, 1) := by decide +kernel
theorem d207_13 : decode mt207.2.1 13 = .ok (.isub, 1) := by decide +kernel
theorem d207_14 : decode mt207.2.1 14 = .ok (.i2l, 1) := by decide +kernel
theorem d207_15 : decode mt207.2.1 15 = .ok (.invokestatic 84, 3) := by decide +kernel
theorem d207_18 : decode mt207.2.1 18 = .ok (.ifCond .eq 12, 3) := by decide +kernel
theorem d207_21 : decode mt207.2.1 21 = .ok (.aload_n 0, 1) := by decide +kernel
theorem d207_22 : decode mt207.2.1 22 = .ok (.getfield 71, 3) := by decide +kernel
theorem d207_25 : decode mt207.2.1 25 = .ok (.iload_n 1, 1) := by decide +kernel
theorem d207_26 : decode mt207.2.1 26 = .ok (.iaload, 1) := by decide +kernel
theorem d207_27 : decode mt207.2.1 27 = .ok (.goto 5, 3) := by decide +kernel
theorem d207_30 : decode mt207.2.1 30 = .ok (.ldc 110, 2) := by decide +kernel
theorem d207_32 : decode mt207.2.1 32 = .ok (.ireturn, 1) := by decide +kernel
noncomputable def pg207_0 : List (Nat × aP) := [(0, oLdA 0 1),
  (1, oPush (.int 0) 2),
  (2, oPutI (fun k => k = 11) 0 5),
  (5, oLdI 1 6),
  (6, oIL (fun x => x.toInt64) 7),
  (7, oPush (.long 0) 8),
  (8, oLdA 0 9),
  (9, oGetI (fun k => k = 11) 36 12),
  (12, oPush (.int 1) 13),
  (13, oII (fun x y => x - y) 14),
  (14, oIL (fun x => x.toInt64) 15),
  (15, oCall 131 3 18),
  (18, oIf (fun x => x = 0) 30 21),
  (21, oLdA 0 22),
  (22, oGetF (fun k => k = 11) 35 25),
  (25, oLdI 1 26),
  (26, oALdI 27),
  (27, oGo 32),
  (30, oPush (.int (-1000000)) 32),
  (32, oRetI)]
theorem ok207_0 : ∀ q ∈ pg207_0, Sim mT mt207 q.1 q.2 ∧ Grow q.2 :=
  List.forall_mem_cons.mpr ⟨⟨sim_aload_n d207_0 rfl, gr_LdA 0 1⟩,
  List.forall_mem_cons.mpr ⟨⟨sim_iconst d207_1 (by decide), gr_Push (.int 0) 2⟩,
  List.forall_mem_cons.mpr ⟨⟨sim_putI d207_2 gf155w, gr_PutI (fun k => k = 11) 0 5⟩,
  List.forall_mem_cons.mpr ⟨⟨sim_iload_n d207_5 rfl, gr_LdI 1 6⟩,
  List.forall_mem_cons.mpr ⟨⟨sim_i2l d207_6, gr_IL (fun x => x.toInt64) 7⟩,
  List.forall_mem_cons.mpr ⟨⟨sim_lconst d207_7 (by decide), gr_Push (.long 0) 8⟩,
  List.forall_mem_cons.mpr ⟨⟨sim_aload_n d207_8 rfl, gr_LdA 0 9⟩,
  List.forall_mem_cons.mpr ⟨⟨sim_getI d207_9 gf189, gr_GetI (fun k => k = 11) 36 12⟩,
  List.forall_mem_cons.mpr ⟨⟨sim_iconst d207_12 (by decide), gr_Push (.int 1) 13⟩,
  List.forall_mem_cons.mpr ⟨⟨sim_isub d207_13, gr_II (fun x y => x - y) 14⟩,
  List.forall_mem_cons.mpr ⟨⟨sim_i2l d207_14, gr_IL (fun x => x.toInt64) 15⟩,
  List.forall_mem_cons.mpr ⟨⟨sim_static (y := 131) d207_15 (Or.inl kw1038) kw1039 mo131, gr_Call 131 3 18⟩,
  List.forall_mem_cons.mpr ⟨⟨sim_if_eq d207_18 (by decide), gr_If (fun x => x = 0) 30 21⟩,
  List.forall_mem_cons.mpr ⟨⟨sim_aload_n d207_21 rfl, gr_LdA 0 22⟩,
  List.forall_mem_cons.mpr ⟨⟨sim_getF d207_22 gf190, gr_GetF (fun k => k = 11) 35 25⟩,
  List.forall_mem_cons.mpr ⟨⟨sim_iload_n d207_25 rfl, gr_LdI 1 26⟩,
  List.forall_mem_cons.mpr ⟨⟨sim_iaload d207_26, gr_ALdI 27⟩,
  List.forall_mem_cons.mpr ⟨⟨sim_goto d207_27 (by decide), gr_Go 32⟩,
  List.forall_mem_cons.mpr ⟨⟨sim_ldc d207_30 kw1083, gr_Push (.int (-1000000)) 32⟩,
  List.forall_mem_cons.mpr ⟨⟨sim_ireturn d207_32 rfl, gr_RetI⟩, fun _ h => absurd h List.not_mem_nil⟩⟩⟩⟩⟩⟩⟩⟩⟩⟩⟩⟩⟩⟩⟩⟩⟩⟩⟩⟩
noncomputable def pg207 : List (Nat × aP) := pg207_0
theorem ok207 : ∀ q ∈ pg207, Sim mT mt207 q.1 q.2 ∧ Grow q.2 := ok207_0
theorem d208_0 : decode mt208.2.1 0 = .ok (.aload_n 0, 1) := by decide +kernel
theorem d208_1 : decode mt208.2.1 1 = .ok (.iconst 0, 1) := by decide +kernel
theorem d208_2 : decode mt208.2.1 2 = .ok (.putfield 74, 3) := by decide +kernel
theorem d208_5 : decode mt208.2.1 5 = .ok (.iconst 0, 1) := by decide +kernel
theorem d208_6 : decode mt208.2.1 6 = .ok (.istore_n 2, 1) := by decide +kernel
theorem d208_7 : decode mt208.2.1 7 = .ok (.iload_n 1, 1) := by decide +kernel
theorem d208_8 : decode mt208.2.1 8 = .ok (.tableswitch 155 0 6 #[44, 77, 77, 86, 77, 114, 150], 44) := by decide +kernel
theorem d208_52 : decode mt208.2.1 52 = .ok (.iconst 0, 1) := by decide +kernel
theorem d208_53 : decode mt208.2.1 53 = .ok (.istore_n 3, 1) := by decide +kernel
theorem d208_54 : decode mt208.2.1 54 = .ok (.iload_n 3, 1) := by decide +kernel
theorem d208_55 : decode mt208.2.1 55 = .ok (.bipush 8, 2) := by decide +kernel
theorem d208_57 : decode mt208.2.1 57 = .ok (.if_icmp .ge 26, 3) := by decide +kernel
theorem d208_60 : decode mt208.2.1 60 = .ok (.iload_n 2, 1) := by decide +kernel
theorem d208_61 : decode mt208.2.1 61 = .ok (.aload_n 0, 1) := by decide +kernel
theorem d208_62 : decode mt208.2.1 62 = .ok (.getfield 7, 3) := by decide +kernel
theorem d208_65 : decode mt208.2.1 65 = .ok (.iload_n 3, 1) := by decide +kernel
theorem d208_66 : decode mt208.2.1 66 = .ok (.iaload, 1) := by decide +kernel
theorem d208_67 : decode mt208.2.1 67 = .ok (.ifCond .lt 7, 3) := by decide +kernel
theorem d208_70 : decode mt208.2.1 70 = .ok (.iconst 1, 1) := by decide +kernel
theorem d208_71 : decode mt208.2.1 71 = .ok (.goto 4, 3) := by decide +kernel
theorem d208_74 : decode mt208.2.1 74 = .ok (.iconst 0, 1) := by decide +kernel
theorem d208_75 : decode mt208.2.1 75 = .ok (.iadd, 1) := by decide +kernel
theorem d208_76 : decode mt208.2.1 76 = .ok (.istore_n 2, 1) := by decide +kernel
theorem d208_77 : decode mt208.2.1 77 = .ok (.iinc 3 1, 3) := by decide +kernel
theorem d208_80 : decode mt208.2.1 80 = .ok (.goto (-26), 3) := by decide +kernel
theorem d208_83 : decode mt208.2.1 83 = .ok (.iload_n 2, 1) := by decide +kernel
theorem d208_84 : decode mt208.2.1 84 = .ok (.ireturn, 1) := by decide +kernel
theorem d208_85 : decode mt208.2.1 85 = .ok (.aload_n 0, 1) := by decide +kernel
theorem d208_86 : decode mt208.2.1 86 = .ok (.getfield 19, 3) := by decide +kernel
theorem d208_89 : decode mt208.2.1 89 = .ok (.iload_n 1, 1) := by decide +kernel
theorem d208_90 : decode mt208.2.1 90 = .ok (.iconst 1, 1) := by decide +kernel
theorem d208_91 : decode mt208.2.1 91 = .ok (.isub, 1) := by decide +kernel
theorem d208_92 : decode mt208.2.1 92 = .ok (.iaload, 1) := by decide +kernel
theorem d208_93 : decode mt208.2.1 93 = .ok (.ireturn, 1) := by decide +kernel
theorem d208_94 : decode mt208.2.1 94 = .ok (.iconst 0, 1) := by decide +kernel
theorem d208_95 : decode mt208.2.1 95 = .ok (.istore_n 3, 1) := by decide +kernel
theorem d208_96 : decode mt208.2.1 96 = .ok (.iload_n 3, 1) := by decide +kernel
theorem d208_97 : decode mt208.2.1 97 = .ok (.bipush 56, 2) := by decide +kernel
theorem d208_99 : decode mt208.2.1 99 = .ok (.if_icmp .ge 21, 3) := by decide +kernel
theorem d208_102 : decode mt208.2.1 102 = .ok (.iload_n 2, 1) := by decide +kernel
theorem d208_103 : decode mt208.2.1 103 = .ok (.aload_n 0, 1) := by decide +kernel
theorem d208_104 : decode mt208.2.1 104 = .ok (.getfield 19, 3) := by decide +kernel
theorem d208_107 : decode mt208.2.1 107 = .ok (.bipush 46, 2) := by decide +kernel
theorem d208_109 : decode mt208.2.1 109 = .ok (.iload_n 3, 1) := by decide +kernel
theorem d208_110 : decode mt208.2.1 110 = .ok (.iadd, 1) := by decide +kernel
theorem d208_111 : decode mt208.2.1 111 = .ok (.iaload, 1) := by decide +kernel
theorem d208_112 : decode mt208.2.1 112 = .ok (.iadd, 1) := by decide +kernel
theorem d208_113 : decode mt208.2.1 113 = .ok (.istore_n 2, 1) := by decide +kernel
theorem d208_114 : decode mt208.2.1 114 = .ok (.iinc 3 1, 3) := by decide +kernel
theorem d208_117 : decode mt208.2.1 117 = .ok (.goto (-21), 3) := by decide +kernel
theorem d208_120 : decode mt208.2.1 120 = .ok (.iload_n 2, 1) := by decide +kernel
theorem d208_121 : decode mt208.2.1 121 = .ok (.ireturn, 1) := by decide +kernel
theorem d208_122 : decode mt208.2.1 122 = .ok (.iconst 0, 1) := by decide +kernel
theorem d208_123 : decode mt208.2.1 123 = .ok (.istore_n 3, 1) := by decide +kernel
theorem d208_124 : decode mt208.2.1 124 = .ok (.iload_n 3, 1) := by decide +kernel
theorem d208_125 : decode mt208.2.1 125 = .ok (.aload_n 0, 1) := by decide +kernel
theorem d208_126 : decode mt208.2.1 126 = .ok (.getfield 19, 3) := by decide +kernel
theorem d208_129 : decode mt208.2.1 129 = .ok (.iconst 3, 1) := by decide +kernel
theorem d208_130 : decode mt208.2.1 130 = .ok (.iaload, 1) := by decide +kernel
theorem d208_131 : decode mt208.2.1 131 = .ok (.if_icmp .ge 25, 3) := by decide +kernel
theorem d208_134 : decode mt208.2.1 134 = .ok (.iload_n 2, 1) := by decide +kernel
theorem d208_135 : decode mt208.2.1 135 = .ok (.aload_n 0, 1) := by decide +kernel
theorem d208_136 : decode mt208.2.1 136 = .ok (.iload_n 3, 1) := by decide +kernel
theorem d208_137 : decode mt208.2.1 137 = .ok (.invokevirtual 256, 3) := by decide +kernel
theorem d208_140 : decode mt208.2.1 140 = .ok (.ifCond .eq 7, 3) := by decide +kernel
theorem d208_143 : decode mt208.2.1 143 = .ok (.iconst 1, 1) := by decide +kernel
theorem d208_144 : decode mt208.2.1 144 = .ok (.goto 4, 3) := by decide +kernel
theorem d208_147 : decode mt208.2.1 147 = .ok (.iconst 0, 1) := by decide +kernel
theorem d208_148 : decode mt208.2.1 148 = .ok (.iadd, 1) := by decide +kernel
theorem d208_149 : decode mt208.2.1 149 = .ok (.istore_n 2, 1) := by decide +kernel
theorem d208_150 : decode mt208.2.1 150 = .ok (.iinc 3 1, 3) := by decide +kernel
theorem d208_153 : decode mt208.2.1 153 = .ok (.goto (-29), 3) := by decide +kernel
theorem d208_156 : decode mt208.2.1 156 = .ok (.iload_n 2, 1) := by decide +kernel
theorem d208_157 : decode mt208.2.1 157 = .ok (.ireturn, 1) := by decide +kernel
theorem d208_158 : decode mt208.2.1 158 = .ok (.aload_n 0, 1) := by decide +kernel
theorem d208_159 : decode mt208.2.1 159 = .ok (.getfield 101, 3) := by decide +kernel
theorem d208_162 : decode mt208.2.1 162 = .ok (.ireturn, 1) := by decide +kernel
theorem d208_163 : decode mt208.2.1 163 = .ok (.ldc 94, 2) := by decide +kernel
theorem d208_165 : decode mt208.2.1 165 = .ok (.ireturn, 1) := by decide +kernel
noncomputable def pg208_0 : List (Nat × aP) := [(0, oLdA 0 1),
  (1, oPush (.int 0) 2),
  (2, oPutI (fun k => k = 11) 0 5),
  (5, oPush (.int 0) 6),
  (6, oStI 2 7),
  (7, oLdI 1 8),
  (8, oSw 0 6 [52, 85, 85, 94, 85, 122, 158] 163),
  (52, oPush (.int 0) 53),
  (53, oStI 3 54),
  (54, oLdI 3 55),
  (55, oPush (.int 8) 57),
  (57, oIc (fun x y => y ≤ x) 83 60),
  (60, oLdI 2 61),
  (61, oLdA 0 62),
  (62, oGetF (fun k => k = 11) 2 65),
  (65, oLdI 3 66),
  (66, oALdI 67),
  (67, oIf (fun x => x < 0) 74 70),
  (70, oPush (.int 1) 71),
  (71, oGo 75),
  (74, oPush (.int 0) 75),
  (75, oII (fun x y => x + y) 76),
  (76, oStI 2 77),
  (77, oInc 3 1 80),
  (80, oGo 54),
  (83, oLdI 2 84),
  (84, oRetI),
  (85, oLdA 0 86),
  (86, oGetF (fun k => k = 11) 5 89),
  (89, oLdI 1 90),
  (90, oPush (.int 1) 91),
  (91, oII (fun x y => x - y) 92),
  (92, oALdI 93),
  (93, oRetI),
  (94, oPush (.int 0) 95),
  (95, oStI 3 96),
  (96, oLdI 3 97),
  (97, oPush (.int 56) 99),
  (99, oIc (fun x y => y ≤ x) 120 102),
  (102, oLdI 2 103)]
theorem ok208_0 : ∀ q ∈ pg208_0, Sim mT mt208 q.1 q.2 ∧ Grow q.2 :=
  List.forall_mem_cons.mpr ⟨⟨sim_aload_n d208_0 rfl, gr_LdA 0 1⟩,
  List.forall_mem_cons.mpr ⟨⟨sim_iconst d208_1 (by decide), gr_Push (.int 0) 2⟩,
  List.forall_mem_cons.mpr ⟨⟨sim_putI d208_2 gf155w, gr_PutI (fun k => k = 11) 0 5⟩,
  List.forall_mem_cons.mpr ⟨⟨sim_iconst d208_5 (by decide), gr_Push (.int 0) 6⟩,
  List.forall_mem_cons.mpr ⟨⟨sim_istore_n d208_6 rfl (by decide), gr_StI 2 7⟩,
  List.forall_mem_cons.mpr ⟨⟨sim_iload_n d208_7 rfl, gr_LdI 1 8⟩,
  List.forall_mem_cons.mpr ⟨⟨sim_tsw d208_8 (by decide) (tsw_ok (by decide +kernel)), gr_Sw 0 6 [52, 85, 85, 94, 85, 122, 158] 163⟩,
  List.forall_mem_cons.mpr ⟨⟨sim_iconst d208_52 (by decide), gr_Push (.int 0) 53⟩,
  List.forall_mem_cons.mpr ⟨⟨sim_istore_n d208_53 rfl (by decide), gr_StI 3 54⟩,
  List.forall_mem_cons.mpr ⟨⟨sim_iload_n d208_54 rfl, gr_LdI 3 55⟩,
  List.forall_mem_cons.mpr ⟨⟨sim_bipush d208_55 (by decide), gr_Push (.int 8) 57⟩,
  List.forall_mem_cons.mpr ⟨⟨sim_icmp_ge d208_57 (by decide), gr_Ic (fun x y => y ≤ x) 83 60⟩,
  List.forall_mem_cons.mpr ⟨⟨sim_iload_n d208_60 rfl, gr_LdI 2 61⟩,
  List.forall_mem_cons.mpr ⟨⟨sim_aload_n d208_61 rfl, gr_LdA 0 62⟩,
  List.forall_mem_cons.mpr ⟨⟨sim_getF d208_62 gf156, gr_GetF (fun k => k = 11) 2 65⟩,
  List.forall_mem_cons.mpr ⟨⟨sim_iload_n d208_65 rfl, gr_LdI 3 66⟩,
  List.forall_mem_cons.mpr ⟨⟨sim_iaload d208_66, gr_ALdI 67⟩,
  List.forall_mem_cons.mpr ⟨⟨sim_if_lt d208_67 (by decide), gr_If (fun x => x < 0) 74 70⟩,
  List.forall_mem_cons.mpr ⟨⟨sim_iconst d208_70 (by decide), gr_Push (.int 1) 71⟩,
  List.forall_mem_cons.mpr ⟨⟨sim_goto d208_71 (by decide), gr_Go 75⟩,
  List.forall_mem_cons.mpr ⟨⟨sim_iconst d208_74 (by decide), gr_Push (.int 0) 75⟩,
  List.forall_mem_cons.mpr ⟨⟨sim_iadd d208_75, gr_II (fun x y => x + y) 76⟩,
  List.forall_mem_cons.mpr ⟨⟨sim_istore_n d208_76 rfl (by decide), gr_StI 2 77⟩,
  List.forall_mem_cons.mpr ⟨⟨sim_iinc d208_77 (by decide) (by decide), gr_Inc 3 1 80⟩,
  List.forall_mem_cons.mpr ⟨⟨sim_goto d208_80 (by decide), gr_Go 54⟩,
  List.forall_mem_cons.mpr ⟨⟨sim_iload_n d208_83 rfl, gr_LdI 2 84⟩,
  List.forall_mem_cons.mpr ⟨⟨sim_ireturn d208_84 rfl, gr_RetI⟩,
  List.forall_mem_cons.mpr ⟨⟨sim_aload_n d208_85 rfl, gr_LdA 0 86⟩,
  List.forall_mem_cons.mpr ⟨⟨sim_getF d208_86 gf171, gr_GetF (fun k => k = 11) 5 89⟩,
  List.forall_mem_cons.mpr ⟨⟨sim_iload_n d208_89 rfl, gr_LdI 1 90⟩,
  List.forall_mem_cons.mpr ⟨⟨sim_iconst d208_90 (by decide), gr_Push (.int 1) 91⟩,
  List.forall_mem_cons.mpr ⟨⟨sim_isub d208_91, gr_II (fun x y => x - y) 92⟩,
  List.forall_mem_cons.mpr ⟨⟨sim_iaload d208_92, gr_ALdI 93⟩,
  List.forall_mem_cons.mpr ⟨⟨sim_ireturn d208_93 rfl, gr_RetI⟩,
  List.forall_mem_cons.mpr ⟨⟨sim_iconst d208_94 (by decide), gr_Push (.int 0) 95⟩,
  List.forall_mem_cons.mpr ⟨⟨sim_istore_n d208_95 rfl (by decide), gr_StI 3 96⟩,
  List.forall_mem_cons.mpr ⟨⟨sim_iload_n d208_96 rfl, gr_LdI 3 97⟩,
  List.forall_mem_cons.mpr ⟨⟨sim_bipush d208_97 (by decide), gr_Push (.int 56) 99⟩,
  List.forall_mem_cons.mpr ⟨⟨sim_icmp_ge d208_99 (by decide), gr_Ic (fun x y => y ≤ x) 120 102⟩,
  List.forall_mem_cons.mpr ⟨⟨sim_iload_n d208_102 rfl, gr_LdI 2 103⟩, fun _ h => absurd h List.not_mem_nil⟩⟩⟩⟩⟩⟩⟩⟩⟩⟩⟩⟩⟩⟩⟩⟩⟩⟩⟩⟩⟩⟩⟩⟩⟩⟩⟩⟩⟩⟩⟩⟩⟩⟩⟩⟩⟩⟩⟩⟩
noncomputable def pg208_1 : List (Nat × aP) := [(103, oLdA 0 104),
  (104, oGetF (fun k => k = 11) 5 107),
  (107, oPush (.int 46) 109),
  (109, oLdI 3 110),
  (110, oII (fun x y => x + y) 111),
  (111, oALdI 112),
  (112, oII (fun x y => x + y) 113),
  (113, oStI 2 114),
  (114, oInc 3 1 117),
  (117, oGo 96),
  (120, oLdI 2 121),
  (121, oRetI),
  (122, oPush (.int 0) 123),
  (123, oStI 3 124),
  (124, oLdI 3 125),
  (125, oLdA 0 126),
  (126, oGetF (fun k => k = 11) 5 129),
  (129, oPush (.int 3) 130),
  (130, oALdI 131),
  (131, oIc (fun x y => y ≤ x) 156 134),
  (134, oLdI 2 135),
  (135, oLdA 0 136),
  (136, oLdI 3 137),
  (137, oCalV (fun k => if k = 11 then some 175 else none) 1 140),
  (140, oIf (fun x => x = 0) 147 143),
  (143, oPush (.int 1) 144),
  (144, oGo 148),
  (147, oPush (.int 0) 148),
  (148, oII (fun x y => x + y) 149),
  (149, oStI 2 150),
  (150, oInc 3 1 153),
  (153, oGo 124),
  (156, oLdI 2 157),
  (157, oRetI),
  (158, oLdA 0 159),
  (159, oGetI (fun k => k = 11) 9 162),
  (162, oRetI),
  (163, oPush (.int (-1000001)) 165),
  (165, oRetI)]
theorem ok208_1 : ∀ q ∈ pg208_1, Sim mT mt208 q.1 q.2 ∧ Grow q.2 :=
  List.forall_mem_cons.mpr ⟨⟨sim_aload_n d208_103 rfl, gr_LdA 0 104⟩,
  List.forall_mem_cons.mpr ⟨⟨sim_getF d208_104 gf171, gr_GetF (fun k => k = 11) 5 107⟩,
  List.forall_mem_cons.mpr ⟨⟨sim_bipush d208_107 (by decide), gr_Push (.int 46) 109⟩,
  List.forall_mem_cons.mpr ⟨⟨sim_iload_n d208_109 rfl, gr_LdI 3 110⟩,
  List.forall_mem_cons.mpr ⟨⟨sim_iadd d208_110, gr_II (fun x y => x + y) 111⟩,
  List.forall_mem_cons.mpr ⟨⟨sim_iaload d208_111, gr_ALdI 112⟩,
  List.forall_mem_cons.mpr ⟨⟨sim_iadd d208_112, gr_II (fun x y => x + y) 113⟩,
  List.forall_mem_cons.mpr ⟨⟨sim_istore_n d208_113 rfl (by decide), gr_StI 2 114⟩,
  List.forall_mem_cons.mpr ⟨⟨sim_iinc d208_114 (by decide) (by decide), gr_Inc 3 1 117⟩,
  List.forall_mem_cons.mpr ⟨⟨sim_goto d208_117 (by decide), gr_Go 96⟩,
  List.forall_mem_cons.mpr ⟨⟨sim_iload_n d208_120 rfl, gr_LdI 2 121⟩,
  List.forall_mem_cons.mpr ⟨⟨sim_ireturn d208_121 rfl, gr_RetI⟩,
  List.forall_mem_cons.mpr ⟨⟨sim_iconst d208_122 (by decide), gr_Push (.int 0) 123⟩,
  List.forall_mem_cons.mpr ⟨⟨sim_istore_n d208_123 rfl (by decide), gr_StI 3 124⟩,
  List.forall_mem_cons.mpr ⟨⟨sim_iload_n d208_124 rfl, gr_LdI 3 125⟩,
  List.forall_mem_cons.mpr ⟨⟨sim_aload_n d208_125 rfl, gr_LdA 0 126⟩,
  List.forall_mem_cons.mpr ⟨⟨sim_getF d208_126 gf171, gr_GetF (fun k => k = 11) 5 129⟩,
  List.forall_mem_cons.mpr ⟨⟨sim_iconst d208_129 (by decide), gr_Push (.int 3) 130⟩,
  List.forall_mem_cons.mpr ⟨⟨sim_iaload d208_130, gr_ALdI 131⟩,
  List.forall_mem_cons.mpr ⟨⟨sim_icmp_ge d208_131 (by decide), gr_Ic (fun x y => y ≤ x) 156 134⟩,
  List.forall_mem_cons.mpr ⟨⟨sim_iload_n d208_134 rfl, gr_LdI 2 135⟩,
  List.forall_mem_cons.mpr ⟨⟨sim_aload_n d208_135 rfl, gr_LdA 0 136⟩,
  List.forall_mem_cons.mpr ⟨⟨sim_iload_n d208_136 rfl, gr_LdI 3 137⟩,
  List.forall_mem_cons.mpr ⟨⟨sim_virtual d208_137 vk126, gr_CalV (fun k => if k = 11 then some 175 else none) 1 140⟩,
  List.forall_mem_cons.mpr ⟨⟨sim_if_eq d208_140 (by decide), gr_If (fun x => x = 0) 147 143⟩,
  List.forall_mem_cons.mpr ⟨⟨sim_iconst d208_143 (by decide), gr_Push (.int 1) 144⟩,
  List.forall_mem_cons.mpr ⟨⟨sim_goto d208_144 (by decide), gr_Go 148⟩,
  List.forall_mem_cons.mpr ⟨⟨sim_iconst d208_147 (by decide), gr_Push (.int 0) 148⟩,
  List.forall_mem_cons.mpr ⟨⟨sim_iadd d208_148, gr_II (fun x y => x + y) 149⟩,
  List.forall_mem_cons.mpr ⟨⟨sim_istore_n d208_149 rfl (by decide), gr_StI 2 150⟩,
  List.forall_mem_cons.mpr ⟨⟨sim_iinc d208_150 (by decide) (by decide), gr_Inc 3 1 153⟩,
  List.forall_mem_cons.mpr ⟨⟨sim_goto d208_153 (by decide), gr_Go 124⟩,
  List.forall_mem_cons.mpr ⟨⟨sim_iload_n d208_156 rfl, gr_LdI 2 157⟩,
  List.forall_mem_cons.mpr ⟨⟨sim_ireturn d208_157 rfl, gr_RetI⟩,
  List.forall_mem_cons.mpr ⟨⟨sim_aload_n d208_158 rfl, gr_LdA 0 159⟩,
  List.forall_mem_cons.mpr ⟨⟨sim_getI d208_159 gf159, gr_GetI (fun k => k = 11) 9 162⟩,
  List.forall_mem_cons.mpr ⟨⟨sim_ireturn d208_162 rfl, gr_RetI⟩,
  List.forall_mem_cons.mpr ⟨⟨sim_ldc d208_163 kw1042, gr_Push (.int (-1000001)) 165⟩,
  List.forall_mem_cons.mpr ⟨⟨sim_ireturn d208_165 rfl, gr_RetI⟩, fun _ h => absurd h List.not_mem_nil⟩⟩⟩⟩⟩⟩⟩⟩⟩⟩⟩⟩⟩⟩⟩⟩⟩⟩⟩⟩⟩⟩⟩⟩⟩⟩⟩⟩⟩⟩⟩⟩⟩⟩⟩⟩⟩⟩⟩
noncomputable def pg208 : List (Nat × aP) := pg208_0 ++ (pg208_1)
theorem ok208 : ∀ q ∈ pg208, Sim mT mt208 q.1 q.2 ∧ Grow q.2 := List.forall_mem_append.mpr ⟨ok208_0, ok208_1⟩
theorem d209_0 : decode mt209.2.1 0 = .ok (.aload_n 0, 1) := by decide +kernel
theorem d209_1 : decode mt209.2.1 1 = .ok (.iconst 0, 1) := by decide +kernel
theorem d209_2 : decode mt209.2.1 2 = .ok (.putfield 74, 3) := by decide +kernel
theorem d209_5 : decode mt209.2.1 5 = .ok (.aload_n 0, 1) := by decide +kernel
theorem d209_6 : decode mt209.2.1 6 = .ok (.getfield 78, 3) := by decide +kernel
theorem d209_9 : decode mt209.2.1 9 = .ok (.ireturn, 1) := by decide +kernel
noncomputable def pg209_0 : List (Nat × aP) := [(0, oLdA 0 1),
  (1, oPush (.int 0) 2),
  (2, oPutI (fun k => k = 11) 0 5),
  (5, oLdA 0 6),
  (6, oGetI (fun k => k = 11) 1 9),
  (9, oRetI)]
theorem ok209_0 : ∀ q ∈ pg209_0, Sim mT mt209 q.1 q.2 ∧ Grow q.2 :=
  List.forall_mem_cons.mpr ⟨⟨sim_aload_n d209_0 rfl, gr_LdA 0 1⟩,
  List.forall_mem_cons.mpr ⟨⟨sim_iconst d209_1 (by decide), gr_Push (.int 0) 2⟩,
  List.forall_mem_cons.mpr ⟨⟨sim_putI d209_2 gf155w, gr_PutI (fun k => k = 11) 0 5⟩,
  List.forall_mem_cons.mpr ⟨⟨sim_aload_n d209_5 rfl, gr_LdA 0 6⟩,
  List.forall_mem_cons.mpr ⟨⟨sim_getI d209_6 gf154, gr_GetI (fun k => k = 11) 1 9⟩,
  List.forall_mem_cons.mpr ⟨⟨sim_ireturn d209_9 rfl, gr_RetI⟩, fun _ h => absurd h List.not_mem_nil⟩⟩⟩⟩⟩⟩
noncomputable def pg209 : List (Nat × aP) := pg209_0
theorem ok209 : ∀ q ∈ pg209, Sim mT mt209 q.1 q.2 ∧ Grow q.2 := ok209_0
theorem d210_0 : decode mt210.2.1 0 = .ok (.lload_n 0, 1) := by decide +kernel
theorem d210_1 : decode mt210.2.1 1 = .ok (.lload_n 0, 1) := by decide +kernel
theorem d210_2 : decode mt210.2.1 2 = .ok (.iconst 1, 1) := by decide +kernel
theorem d210_3 : decode mt210.2.1 3 = .ok (.lushr, 1) := by decide +kernel
theorem d210_4 : decode mt210.2.1 4 = .ok (.ldc2_w 314, 3) := by decide +kernel
theorem d210_7 : decode mt210.2.1 7 = .ok (.land, 1) := by decide +kernel
theorem d210_8 : decode mt210.2.1 8 = .ok (.lsub, 1) := by decide +kernel
theorem d210_9 : decode mt210.2.1 9 = .ok (.lstore_n 0, 1) := by decide +kernel
theorem d210_10 : decode mt210.2.1 10 = .ok (.lload_n 0, 1) := by decide +kernel
theorem d210_11 : decode mt210.2.1 11 = .ok (.ldc2_w 316, 3) := by decide +kernel
theorem d210_14 : decode mt210.2.1 14 = .ok (.land, 1) := by decide +kernel
theorem d210_15 : decode mt210.2.1 15 = .ok (.lload_n 0, 1) := by decide +kernel
theorem d210_16 : decode mt210.2.1 16 = .ok (.iconst 2, 1) := by decide +kernel
theorem d210_17 : decode mt210.2.1 17 = .ok (.lushr, 1) := by decide +kernel
theorem d210_18 : decode mt210.2.1 18 = .ok (.ldc2_w 316, 3) := by decide +kernel
theorem d210_21 : decode mt210.2.1 21 = .ok (.land, 1) := by decide +kernel
theorem d210_22 : decode mt210.2.1 22 = .ok (.ladd, 1) := by decide +kernel
theorem d210_23 : decode mt210.2.1 23 = .ok (.lstore_n 0, 1) := by decide +kernel
theorem d210_24 : decode mt210.2.1 24 = .ok (.lload_n 0, 1) := by decide +kernel
theorem d210_25 : decode mt210.2.1 25 = .ok (.lload_n 0, 1) := by decide +kernel
theorem d210_26 : decode mt210.2.1 26 = .ok (.iconst 4, 1) := by decide +kernel
theorem d210_27 : decode mt210.2.1 27 = .ok (.lushr, 1) := by decide +kernel
theorem d210_28 : decode mt210.2.1 28 = .ok (.ladd, 1) := by decide +kernel
theorem d210_29 : decode mt210.2.1 29 = .ok (.ldc2_w 318, 3) := by decide +kernel
theorem d210_32 : decode mt210.2.1 32 = .ok (.land, 1) := by decide +kernel
theorem d210_33 : decode mt210.2.1 33 = .ok (.lstore_n 0, 1) := by decide +kernel
theorem d210_34 : decode mt210.2.1 34 = .ok (.lload_n 0, 1) := by decide +kernel
theorem d210_35 : decode mt210.2.1 35 = .ok (.lload_n 0, 1) := by decide +kernel
theorem d210_36 : decode mt210.2.1 36 = .ok (.bipush 8, 2) := by decide +kernel
theorem d210_38 : decode mt210.2.1 38 = .ok (.lushr, 1) := by decide +kernel
theorem d210_39 : decode mt210.2.1 39 = .ok (.ladd, 1) := by decide +kernel
theorem d210_40 : decode mt210.2.1 40 = .ok (.lstore_n 0, 1) := by decide +kernel
theorem d210_41 : decode mt210.2.1 41 = .ok (.lload_n 0, 1) := by decide +kernel
theorem d210_42 : decode mt210.2.1 42 = .ok (.lload_n 0, 1) := by decide +kernel
theorem d210_43 : decode mt210.2.1 43 = .ok (.bipush 16, 2) := by decide +kernel
theorem d210_45 : decode mt210.2.1 45 = .ok (.lushr, 1) := by decide +kernel
theorem d210_46 : decode mt210.2.1 46 = .ok (.ladd, 1) := by decide +kernel
theorem d210_47 : decode mt210.2.1 47 = .ok (.lstore_n 0, 1) := by decide +kernel
theorem d210_48 : decode mt210.2.1 48 = .ok (.lload_n 0, 1) := by decide +kernel
theorem d210_49 : decode mt210.2.1 49 = .ok (.lload_n 0, 1) := by decide +kernel
theorem d210_50 : decode mt210.2.1 50 = .ok (.bipush 32, 2) := by decide +kernel
theorem d210_52 : decode mt210.2.1 52 = .ok (.lushr, 1) := by decide +kernel
theorem d210_53 : decode mt210.2.1 53 = .ok (.ladd, 1) := by decide +kernel
theorem d210_54 : decode mt210.2.1 54 = .ok (.lstore_n 0, 1) := by decide +kernel
theorem d210_55 : decode mt210.2.1 55 = .ok (.lload_n 0, 1) := by decide +kernel
theorem d210_56 : decode mt210.2.1 56 = .ok (.l2i, 1) := by decide +kernel
theorem d210_57 : decode mt210.2.1 57 = .ok (.bipush 127, 2) := by decide +kernel
theorem d210_59 : decode mt210.2.1 59 = .ok (.iand, 1) := by decide +kernel
theorem d210_60 : decode mt210.2.1 60 = .ok (.ireturn, 1) := by decide +kernel
noncomputable def pg210_0 : List (Nat × aP) := [(0, oLdL 0 1),
  (1, oLdL 0 2),
  (2, oPush (.int 1) 3),
  (3, oLSh (fun x y => (x.toUInt64 >>> (y.toInt64.toUInt64 &&& Int64.toUInt64 63)).toInt64) 4),
  (4, oPush (.long 6148914691236517205) 7),
  (7, oLL (fun x y => x &&& y) 8),
  (8, oLL (fun x y => x - y) 9),
  (9, oStL 0 10),
  (10, oLdL 0 11),
  (11, oPush (.long 3689348814741910323) 14),
  (14, oLL (fun x y => x &&& y) 15),
  (15, oLdL 0 16),
  (16, oPush (.int 2) 17),
  (17, oLSh (fun x y => (x.toUInt64 >>> (y.toInt64.toUInt64 &&& Int64.toUInt64 63)).toInt64) 18),
  (18, oPush (.long 3689348814741910323) 21),
  (21, oLL (fun x y => x &&& y) 22),
  (22, oLL (fun x y => x + y) 23),
  (23, oStL 0 24),
  (24, oLdL 0 25),
  (25, oLdL 0 26),
  (26, oPush (.int 4) 27),
  (27, oLSh (fun x y => (x.toUInt64 >>> (y.toInt64.toUInt64 &&& Int64.toUInt64 63)).toInt64) 28),
  (28, oLL (fun x y => x + y) 29),
  (29, oPush (.long 1085102592571150095) 32),
  (32, oLL (fun x y => x &&& y) 33),
  (33, oStL 0 34),
  (34, oLdL 0 35),
  (35, oLdL 0 36),
  (36, oPush (.int 8) 38),
  (38, oLSh (fun x y => (x.toUInt64 >>> (y.toInt64.toUInt64 &&& Int64.toUInt64 63)).toInt64) 39),
  (39, oLL (fun x y => x + y) 40),
  (40, oStL 0 41),
  (41, oLdL 0 42),
  (42, oLdL 0 43),
  (43, oPush (.int 16) 45),
  (45, oLSh (fun x y => (x.toUInt64 >>> (y.toInt64.toUInt64 &&& Int64.toUInt64 63)).toInt64) 46),
  (46, oLL (fun x y => x + y) 47),
  (47, oStL 0 48),
  (48, oLdL 0 49),
  (49, oLdL 0 50)]
theorem ok210_0 : ∀ q ∈ pg210_0, Sim mT mt210 q.1 q.2 ∧ Grow q.2 :=
  List.forall_mem_cons.mpr ⟨⟨sim_lload_n d210_0 rfl, gr_LdL 0 1⟩,
  List.forall_mem_cons.mpr ⟨⟨sim_lload_n d210_1 rfl, gr_LdL 0 2⟩,
  List.forall_mem_cons.mpr ⟨⟨sim_iconst d210_2 (by decide), gr_Push (.int 1) 3⟩,
  List.forall_mem_cons.mpr ⟨⟨sim_lushr d210_3, gr_LSh (fun x y => (x.toUInt64 >>> (y.toInt64.toUInt64 &&& Int64.toUInt64 63)).toInt64) 4⟩,
  List.forall_mem_cons.mpr ⟨⟨sim_ldc2 d210_4 kw635, gr_Push (.long 6148914691236517205) 7⟩,
  List.forall_mem_cons.mpr ⟨⟨sim_land d210_7, gr_LL (fun x y => x &&& y) 8⟩,
  List.forall_mem_cons.mpr ⟨⟨sim_lsub d210_8, gr_LL (fun x y => x - y) 9⟩,
  List.forall_mem_cons.mpr ⟨⟨sim_lstore_n d210_9 rfl (by decide), gr_StL 0 10⟩,
  List.forall_mem_cons.mpr ⟨⟨sim_lload_n d210_10 rfl, gr_LdL 0 11⟩,
  List.forall_mem_cons.mpr ⟨⟨sim_ldc2 d210_11 kw636, gr_Push (.long 3689348814741910323) 14⟩,
  List.forall_mem_cons.mpr ⟨⟨sim_land d210_14, gr_LL (fun x y => x &&& y) 15⟩,
  List.forall_mem_cons.mpr ⟨⟨sim_lload_n d210_15 rfl, gr_LdL 0 16⟩,
  List.forall_mem_cons.mpr ⟨⟨sim_iconst d210_16 (by decide), gr_Push (.int 2) 17⟩,
  List.forall_mem_cons.mpr ⟨⟨sim_lushr d210_17, gr_LSh (fun x y => (x.toUInt64 >>> (y.toInt64.toUInt64 &&& Int64.toUInt64 63)).toInt64) 18⟩,
  List.forall_mem_cons.mpr ⟨⟨sim_ldc2 d210_18 kw636, gr_Push (.long 3689348814741910323) 21⟩,
  List.forall_mem_cons.mpr ⟨⟨sim_land d210_21, gr_LL (fun x y => x &&& y) 22⟩,
  List.forall_mem_cons.mpr ⟨⟨sim_ladd d210_22, gr_LL (fun x y => x + y) 23⟩,
  List.forall_mem_cons.mpr ⟨⟨sim_lstore_n d210_23 rfl (by decide), gr_StL 0 24⟩,
  List.forall_mem_cons.mpr ⟨⟨sim_lload_n d210_24 rfl, gr_LdL 0 25⟩,
  List.forall_mem_cons.mpr ⟨⟨sim_lload_n d210_25 rfl, gr_LdL 0 26⟩,
  List.forall_mem_cons.mpr ⟨⟨sim_iconst d210_26 (by decide), gr_Push (.int 4) 27⟩,
  List.forall_mem_cons.mpr ⟨⟨sim_lushr d210_27, gr_LSh (fun x y => (x.toUInt64 >>> (y.toInt64.toUInt64 &&& Int64.toUInt64 63)).toInt64) 28⟩,
  List.forall_mem_cons.mpr ⟨⟨sim_ladd d210_28, gr_LL (fun x y => x + y) 29⟩,
  List.forall_mem_cons.mpr ⟨⟨sim_ldc2 d210_29 kw637, gr_Push (.long 1085102592571150095) 32⟩,
  List.forall_mem_cons.mpr ⟨⟨sim_land d210_32, gr_LL (fun x y => x &&& y) 33⟩,
  List.forall_mem_cons.mpr ⟨⟨sim_lstore_n d210_33 rfl (by decide), gr_StL 0 34⟩,
  List.forall_mem_cons.mpr ⟨⟨sim_lload_n d210_34 rfl, gr_LdL 0 35⟩,
  List.forall_mem_cons.mpr ⟨⟨sim_lload_n d210_35 rfl, gr_LdL 0 36⟩,
  List.forall_mem_cons.mpr ⟨⟨sim_bipush d210_36 (by decide), gr_Push (.int 8) 38⟩,
  List.forall_mem_cons.mpr ⟨⟨sim_lushr d210_38, gr_LSh (fun x y => (x.toUInt64 >>> (y.toInt64.toUInt64 &&& Int64.toUInt64 63)).toInt64) 39⟩,
  List.forall_mem_cons.mpr ⟨⟨sim_ladd d210_39, gr_LL (fun x y => x + y) 40⟩,
  List.forall_mem_cons.mpr ⟨⟨sim_lstore_n d210_40 rfl (by decide), gr_StL 0 41⟩,
  List.forall_mem_cons.mpr ⟨⟨sim_lload_n d210_41 rfl, gr_LdL 0 42⟩,
  List.forall_mem_cons.mpr ⟨⟨sim_lload_n d210_42 rfl, gr_LdL 0 43⟩,
  List.forall_mem_cons.mpr ⟨⟨sim_bipush d210_43 (by decide), gr_Push (.int 16) 45⟩,
  List.forall_mem_cons.mpr ⟨⟨sim_lushr d210_45, gr_LSh (fun x y => (x.toUInt64 >>> (y.toInt64.toUInt64 &&& Int64.toUInt64 63)).toInt64) 46⟩,
  List.forall_mem_cons.mpr ⟨⟨sim_ladd d210_46, gr_LL (fun x y => x + y) 47⟩,
  List.forall_mem_cons.mpr ⟨⟨sim_lstore_n d210_47 rfl (by decide), gr_StL 0 48⟩,
  List.forall_mem_cons.mpr ⟨⟨sim_lload_n d210_48 rfl, gr_LdL 0 49⟩,
  List.forall_mem_cons.mpr ⟨⟨sim_lload_n d210_49 rfl, gr_LdL 0 50⟩, fun _ h => absurd h List.not_mem_nil⟩⟩⟩⟩⟩⟩⟩⟩⟩⟩⟩⟩⟩⟩⟩⟩⟩⟩⟩⟩⟩⟩⟩⟩⟩⟩⟩⟩⟩⟩⟩⟩⟩⟩⟩⟩⟩⟩⟩⟩
noncomputable def pg210_1 : List (Nat × aP) := [(50, oPush (.int 32) 52),
  (52, oLSh (fun x y => (x.toUInt64 >>> (y.toInt64.toUInt64 &&& Int64.toUInt64 63)).toInt64) 53),
  (53, oLL (fun x y => x + y) 54),
  (54, oStL 0 55),
  (55, oLdL 0 56),
  (56, oLI (fun x => x.toInt32) 57),
  (57, oPush (.int 127) 59),
  (59, oII (fun x y => x &&& y) 60),
  (60, oRetI)]
theorem ok210_1 : ∀ q ∈ pg210_1, Sim mT mt210 q.1 q.2 ∧ Grow q.2 :=
  List.forall_mem_cons.mpr ⟨⟨sim_bipush d210_50 (by decide), gr_Push (.int 32) 52⟩,
  List.forall_mem_cons.mpr ⟨⟨sim_lushr d210_52, gr_LSh (fun x y => (x.toUInt64 >>> (y.toInt64.toUInt64 &&& Int64.toUInt64 63)).toInt64) 53⟩,
  List.forall_mem_cons.mpr ⟨⟨sim_ladd d210_53, gr_LL (fun x y => x + y) 54⟩,
  List.forall_mem_cons.mpr ⟨⟨sim_lstore_n d210_54 rfl (by decide), gr_StL 0 55⟩,
  List.forall_mem_cons.mpr ⟨⟨sim_lload_n d210_55 rfl, gr_LdL 0 56⟩,
  List.forall_mem_cons.mpr ⟨⟨sim_l2i d210_56, gr_LI (fun x => x.toInt32) 57⟩,
  List.forall_mem_cons.mpr ⟨⟨sim_bipush d210_57 (by decide), gr_Push (.int 127) 59⟩,
  List.forall_mem_cons.mpr ⟨⟨sim_iand d210_59, gr_II (fun x y => x &&& y) 60⟩,
  List.forall_mem_cons.mpr ⟨⟨sim_ireturn d210_60 rfl, gr_RetI⟩, fun _ h => absurd h List.not_mem_nil⟩⟩⟩⟩⟩⟩⟩⟩⟩
noncomputable def pg210 : List (Nat × aP) := pg210_0 ++ (pg210_1)
theorem ok210 : ∀ q ∈ pg210, Sim mT mt210 q.1 q.2 ∧ Grow q.2 := List.forall_mem_append.mpr ⟨ok210_0, ok210_1⟩
theorem d211_0 : decode mt211.2.1 0 = .ok (.aload_n 0, 1) := by decide +kernel
theorem d211_1 : decode mt211.2.1 1 = .ok (.getfield 9, 3) := by decide +kernel
theorem d211_4 : decode mt211.2.1 4 = .ok (.arraylength, 1) := by decide +kernel
theorem d211_5 : decode mt211.2.1 5 = .ok (.aload_n 0, 1) := by decide +kernel
theorem d211_6 : decode mt211.2.1 6 = .ok (.invokevirtual 335, 3) := by decide +kernel
theorem d211_9 : decode mt211.2.1 9 = .ok (.ishr, 1) := by decide +kernel
theorem d211_10 : decode mt211.2.1 10 = .ok (.ireturn, 1) := by decide +kernel
noncomputable def pg211_0 : List (Nat × aP) := [(0, oLdA 0 1),
  (1, oStrV 4),
  (4, oLen 5),
  (5, oLdA 0 6),
  (6, oCalV (fun k => if k = 201 then some 213 else none) 0 9),
  (9, oII (fun x y => x >>> (y &&& 31)) 10),
  (10, oRetI)]
theorem ok211_0 : ∀ q ∈ pg211_0, Sim mT mt211 q.1 q.2 ∧ Grow q.2 :=
  List.forall_mem_cons.mpr ⟨⟨sim_aload_n d211_0 rfl, gr_LdA 0 1⟩,
  List.forall_mem_cons.mpr ⟨⟨sim_strV d211_1 kw1361, gr_StrV 4⟩,
  List.forall_mem_cons.mpr ⟨⟨sim_arraylength d211_4, gr_Len 5⟩,
  List.forall_mem_cons.mpr ⟨⟨sim_aload_n d211_5 rfl, gr_LdA 0 6⟩,
  List.forall_mem_cons.mpr ⟨⟨sim_virtual d211_6 vk141, gr_CalV (fun k => if k = 201 then some 213 else none) 0 9⟩,
  List.forall_mem_cons.mpr ⟨⟨sim_ishr d211_9, gr_II (fun x y => x >>> (y &&& 31)) 10⟩,
  List.forall_mem_cons.mpr ⟨⟨sim_ireturn d211_10 rfl, gr_RetI⟩, fun _ h => absurd h List.not_mem_nil⟩⟩⟩⟩⟩⟩⟩
noncomputable def pg211 : List (Nat × aP) := pg211_0
theorem ok211 : ∀ q ∈ pg211, Sim mT mt211 q.1 q.2 ∧ Grow q.2 := ok211_0
theorem d212_0 : decode mt212.2.1 0 = .ok (.aload_n 0, 1) := by decide +kernel
theorem d212_1 : decode mt212.2.1 1 = .ok (.invokevirtual 492, 3) := by decide +kernel
theorem d212_4 : decode mt212.2.1 4 = .ok (.ifCond .eq 12, 3) := by decide +kernel
theorem d212_7 : decode mt212.2.1 7 = .ok (.aload_n 0, 1) := by decide +kernel
theorem d212_8 : decode mt212.2.1 8 = .ok (.getfield 9, 3) := by decide +kernel
theorem d212_11 : decode mt212.2.1 11 = .ok (.iload_n 1, 1) := by decide +kernel
theorem d212_12 : decode mt212.2.1 12 = .ok (.invokestatic 495, 3) := by decide +kernel
theorem d212_15 : decode mt212.2.1 15 = .ok (.ireturn, 1) := by decide +kernel
theorem d212_16 : decode mt212.2.1 16 = .ok (.aload_n 0, 1) := by decide +kernel
theorem d212_17 : decode mt212.2.1 17 = .ok (.getfield 9, 3) := by decide +kernel
theorem d212_20 : decode mt212.2.1 20 = .ok (.iload_n 1, 1) := by decide +kernel
theorem d212_24 : decode mt212.2.1 24 = .ok (.ireturn, 1) := by decide +kernel
noncomputable def pg212_0 : List (Nat × aP) := [(0, oLdA 0 1),
  (1, oCalV (fun k => if k = 201 then some 214 else none) 0 4),
  (4, oIf (fun x => x = 0) 16 7),
  (7, oLdA 0 8),
  (8, oStrV 11),
  (11, oLdI 1 12),
  (12, oCall 216 2 15),
  (15, oRetN .char),
  (16, oLdA 0 17),
  (17, oStrV 20),
  (20, oLdI 1 21),
  (24, oRetN .char)]
theorem ok212_0 : ∀ q ∈ pg212_0, Sim mT mt212 q.1 q.2 ∧ Grow q.2 :=
  List.forall_mem_cons.mpr ⟨⟨sim_aload_n d212_0 rfl, gr_LdA 0 1⟩,
  List.forall_mem_cons.mpr ⟨⟨sim_virtual d212_1 vk142, gr_CalV (fun k => if k = 201 then some 214 else none) 0 4⟩,
  List.forall_mem_cons.mpr ⟨⟨sim_if_eq d212_4 (by decide), gr_If (fun x => x = 0) 16 7⟩,
  List.forall_mem_cons.mpr ⟨⟨sim_aload_n d212_7 rfl, gr_LdA 0 8⟩,
  List.forall_mem_cons.mpr ⟨⟨sim_strV d212_8 kw1361, gr_StrV 11⟩,
  List.forall_mem_cons.mpr ⟨⟨sim_iload_n d212_11 rfl, gr_LdI 1 12⟩,
  List.forall_mem_cons.mpr ⟨⟨sim_static (y := 216) d212_12 (Or.inl kw456) kw457 mo216, gr_Call 216 2 15⟩,
  List.forall_mem_cons.mpr ⟨⟨sim_nreturn d212_15 rfl (fun _ h => congrArg Value.int h), gr_RetN .char⟩,
  List.forall_mem_cons.mpr ⟨⟨sim_aload_n d212_16 rfl, gr_LdA 0 17⟩,
  List.forall_mem_cons.mpr ⟨⟨sim_strV d212_17 kw1361, gr_StrV 20⟩,
  List.forall_mem_cons.mpr ⟨⟨sim_iload_n d212_20 rfl, gr_LdI 1 21⟩,
  List.forall_mem_cons.mpr ⟨⟨sim_nreturn d212_24 rfl (fun _ h => congrArg Value.int h), gr_RetN .char⟩, fun _ h => absurd h List.not_mem_nil⟩⟩⟩⟩⟩⟩⟩⟩⟩⟩⟩⟩
noncomputable def pg212 : List (Nat × aP) := pg212_0
theorem ok212 : ∀ q ∈ pg212, Sim mT mt212 q.1 q.2 ∧ Grow q.2 := ok212_0
theorem d213_0 : decode mt213.2.1 0 = .ok (.getstatic 38, 3) := by decide +kernel
theorem d213_3 : decode mt213.2.1 3 = .ok (.ifCond .eq 10, 3) := by decide +kernel
theorem d213_6 : decode mt213.2.1 6 = .ok (.aload_n 0, 1) := by decide +kernel
theorem d213_7 : decode mt213.2.1 7 = .ok (.getfield 15, 3) := by decide +kernel
theorem d213_10 : decode mt213.2.1 10 = .ok (.goto 4, 3) := by decide +kernel
theorem d213_13 : decode mt213.2.1 13 = .ok (.iconst 1, 1) := by decide +kernel
theorem d213_14 : decode mt213.2.1 14 = .ok (.ireturn, 1) := by decide +kernel
noncomputable def pg213_0 : List (Nat × aP) := [(0, oPush (.int 1) 3),
  (3, oIf (fun x => x = 0) 13 6),
  (6, oLdA 0 7),
  (7, oStrC 10),
  (10, oGo 14),
  (13, oPush (.int 1) 14),
  (14, oRetN .byte)]
theorem ok213_0 : ∀ q ∈ pg213_0, Sim mT mt213 q.1 q.2 ∧ Grow q.2 :=
  List.forall_mem_cons.mpr ⟨⟨sim_compact d213_0 kw446, gr_Push (.int 1) 3⟩,
  List.forall_mem_cons.mpr ⟨⟨sim_if_eq d213_3 (by decide), gr_If (fun x => x = 0) 13 6⟩,
  List.forall_mem_cons.mpr ⟨⟨sim_aload_n d213_6 rfl, gr_LdA 0 7⟩,
  List.forall_mem_cons.mpr ⟨⟨sim_strC d213_7 kw1362, gr_StrC 10⟩,
  List.forall_mem_cons.mpr ⟨⟨sim_goto d213_10 (by decide), gr_Go 14⟩,
  List.forall_mem_cons.mpr ⟨⟨sim_iconst d213_13 (by decide), gr_Push (.int 1) 14⟩,
  List.forall_mem_cons.mpr ⟨⟨sim_nreturn d213_14 rfl (fun _ h => congrArg Value.int h), gr_RetN .byte⟩, fun _ h => absurd h List.not_mem_nil⟩⟩⟩⟩⟩⟩⟩
noncomputable def pg213 : List (Nat × aP) := pg213_0
theorem ok213 : ∀ q ∈ pg213, Sim mT mt213 q.1 q.2 ∧ Grow q.2 := ok213_0
theorem d214_0 : decode mt214.2.1 0 = .ok (.getstatic 38, 3) := by decide +kernel
theorem d214_3 : decode mt214.2.1 3 = .ok (.ifCond .eq 14, 3) := by decide +kernel
theorem d214_6 : decode mt214.2.1 6 = .ok (.aload_n 0, 1) := by decide +kernel
theorem d214_7 : decode mt214.2.1 7 = .ok (.getfield 15, 3) := by decide +kernel
theorem d214_10 : decode mt214.2.1 10 = .ok (.ifCond .ne 7, 3) := by decide +kernel
theorem d214_13 : decode mt214.2.1 13 = .ok (.iconst 1, 1) := by decide +kernel
theorem d214_14 : decode mt214.2.1 14 = .ok (.goto 4, 3) := by decide +kernel
theorem d214_17 : decode mt214.2.1 17 = .ok (.iconst 0, 1) := by decide +kernel
theorem d214_18 : decode mt214.2.1 18 = .ok (.ireturn, 1) := by decide +kernel
noncomputable def pg214_0 : List (Nat × aP) := [(0, oPush (.int 1) 3),
  (3, oIf (fun x => x = 0) 17 6),
  (6, oLdA 0 7),
  (7, oStrC 10),
  (10, oIf (fun x => ¬ x = 0) 17 13),
  (13, oPush (.int 1) 14),
  (14, oGo 18),
  (17, oPush (.int 0) 18),
  (18, oRetN .boolean)]
theorem ok214_0 : ∀ q ∈ pg214_0, Sim mT mt214 q.1 q.2 ∧ Grow q.2 :=
  List.forall_mem_cons.mpr ⟨⟨sim_compact d214_0 kw446, gr_Push (.int 1) 3⟩,
  List.forall_mem_cons.mpr ⟨⟨sim_if_eq d214_3 (by decide), gr_If (fun x => x = 0) 17 6⟩,
  List.forall_mem_cons.mpr ⟨⟨sim_aload_n d214_6 rfl, gr_LdA 0 7⟩,
  List.forall_mem_cons.mpr ⟨⟨sim_strC d214_7 kw1362, gr_StrC 10⟩,
  List.forall_mem_cons.mpr ⟨⟨sim_if_ne d214_10 (by decide), gr_If (fun x => ¬ x = 0) 17 13⟩,
  List.forall_mem_cons.mpr ⟨⟨sim_iconst d214_13 (by decide), gr_Push (.int 1) 14⟩,
  List.forall_mem_cons.mpr ⟨⟨sim_goto d214_14 (by decide), gr_Go 18⟩,
  List.forall_mem_cons.mpr ⟨⟨sim_iconst d214_17 (by decide), gr_Push (.int 0) 18⟩,
  List.forall_mem_cons.mpr ⟨⟨sim_nreturn d214_18 rfl (fun _ h => congrArg Value.int h), gr_RetN .boolean⟩, fun _ h => absurd h List.not_mem_nil⟩⟩⟩⟩⟩⟩⟩⟩⟩
noncomputable def pg214 : List (Nat × aP) := pg214_0
theorem ok214 : ∀ q ∈ pg214, Sim mT mt214 q.1 q.2 ∧ Grow q.2 := ok214_0
theorem d215_0 : decode mt215.2.1 0 = .ok (.iload_n 0, 1) := by decide +kernel
theorem d215_1 : decode mt215.2.1 1 = .ok (.iload_n 1, 1) := by decide +kernel
theorem d215_2 : decode mt215.2.1 2 = .ok (.getstatic 1053, 3) := by decide +kernel
theorem d215_5 : decode mt215.2.1 5 = .ok (.invokestatic 1059, 3) := by decide +kernel
theorem d215_8 : decode mt215.2.1 8 = .ok (.pop, 1) := by decide +kernel
theorem d215_9 : decode mt215.2.1 9 = .ok (.return_, 1) := by decide +kernel
noncomputable def pg215_0 : List (Nat × aP) := [(0, oLdI 0 1),
  (1, oLdI 1 2),
  (2, oPush (.retAddr 0) 5),
  (5, oCall 217 3 8),
  (8, oPop 9),
  (9, oRetV)]
theorem ok215_0 : ∀ q ∈ pg215_0, Sim mT mt215 q.1 q.2 ∧ Grow q.2 :=
  List.forall_mem_cons.mpr ⟨⟨sim_iload_n d215_0 rfl, gr_LdI 0 1⟩,
  List.forall_mem_cons.mpr ⟨⟨sim_iload_n d215_1 rfl, gr_LdI 1 2⟩,
  List.forall_mem_cons.mpr ⟨⟨sim_sioobe d215_2 kw462, gr_Push (.retAddr 0) 5⟩,
  List.forall_mem_cons.mpr ⟨⟨sim_static (y := 217) d215_5 (Or.inl kw464) kw465 mo217, gr_Call 217 3 8⟩,
  List.forall_mem_cons.mpr ⟨⟨sim_pop d215_8, gr_Pop 9⟩,
  List.forall_mem_cons.mpr ⟨⟨sim_return d215_9 rfl, gr_RetV⟩, fun _ h => absurd h List.not_mem_nil⟩⟩⟩⟩⟩⟩
noncomputable def pg215 : List (Nat × aP) := pg215_0
theorem ok215 : ∀ q ∈ pg215, Sim mT mt215 q.1 q.2 ∧ Grow q.2 := ok215_0
theorem d216_0 : decode mt216.2.1 0 = .ok (.iload_n 1, 1) := by decide +kernel
theorem d216_1 : decode mt216.2.1 1 = .ok (.aload_n 0, 1) := by decide +kernel
theorem d216_2 : decode mt216.2.1 2 = .ok (.arraylength, 1) := by decide +kernel
theorem d216_3 : decode mt216.2.1 3 = .ok (.invokestatic 9, 3) := by decide +kernel
theorem d216_6 : decode mt216.2.1 6 = .ok (.aload_n 0, 1) := by decide +kernel
theorem d216_7 : decode mt216.2.1 7 = .ok (.iload_n 1, 1) := by decide +kernel
theorem d216_8 : decode mt216.2.1 8 = .ok (.baload, 1) := by decide +kernel
theorem d216_9 : decode mt216.2.1 9 = .ok (.sipush 255, 3) := by decide +kernel
theorem d216_12 : decode mt216.2.1 12 = .ok (.iand, 1) := by decide +kernel
theorem d216_13 : decode mt216.2.1 13 = .ok (.i2c, 1) := by decide +kernel
theorem d216_14 : decode mt216.2.1 14 = .ok (.ireturn, 1) := by decide +kernel
noncomputable def pg216_0 : List (Nat × aP) := [(0, oLdI 1 1),
  (1, oLdA 0 2),
  (2, oLen 3),
  (3, oCall 215 2 6),
  (6, oLdA 0 7),
  (7, oLdI 1 8),
  (8, oALdB 9),
  (9, oPush (.int 255) 12),
  (12, oII (fun x y => x &&& y) 13),
  (13, oI (fun x => (x.toUInt32 % 65536).toInt32) 14),
  (14, oRetN .char)]
theorem ok216_0 : ∀ q ∈ pg216_0, Sim mT mt216 q.1 q.2 ∧ Grow q.2 :=
  List.forall_mem_cons.mpr ⟨⟨sim_iload_n d216_0 rfl, gr_LdI 1 1⟩,
  List.forall_mem_cons.mpr ⟨⟨sim_aload_n d216_1 rfl, gr_LdA 0 2⟩,
  List.forall_mem_cons.mpr ⟨⟨sim_arraylength d216_2, gr_Len 3⟩,
  List.forall_mem_cons.mpr ⟨⟨sim_static (y := 215) d216_3 (Or.inl kw459) kw460 mo215, gr_Call 215 2 6⟩,
  List.forall_mem_cons.mpr ⟨⟨sim_aload_n d216_6 rfl, gr_LdA 0 7⟩,
  List.forall_mem_cons.mpr ⟨⟨sim_iload_n d216_7 rfl, gr_LdI 1 8⟩,
  List.forall_mem_cons.mpr ⟨⟨sim_baload d216_8, gr_ALdB 9⟩,
  List.forall_mem_cons.mpr ⟨⟨sim_sipush d216_9 (by decide), gr_Push (.int 255) 12⟩,
  List.forall_mem_cons.mpr ⟨⟨sim_iand d216_12, gr_II (fun x y => x &&& y) 13⟩,
  List.forall_mem_cons.mpr ⟨⟨sim_i2c d216_13, gr_I (fun x => (x.toUInt32 % 65536).toInt32) 14⟩,
  List.forall_mem_cons.mpr ⟨⟨sim_nreturn d216_14 rfl (fun _ h => congrArg Value.int h), gr_RetN .char⟩, fun _ h => absurd h List.not_mem_nil⟩⟩⟩⟩⟩⟩⟩⟩⟩⟩⟩
noncomputable def pg216 : List (Nat × aP) := pg216_0
theorem ok216 : ∀ q ∈ pg216, Sim mT mt216 q.1 q.2 ∧ Grow q.2 := ok216_0
theorem d217_0 : decode mt217.2.1 0 = .ok (.iload_n 0, 1) := by decide +kernel
theorem d217_1 : decode mt217.2.1 1 = .ok (.ifCond .lt 8, 3) := by decide +kernel
theorem d217_4 : decode mt217.2.1 4 = .ok (.iload_n 0, 1) := by decide +kernel
theorem d217_5 : decode mt217.2.1 5 = .ok (.iload_n 1, 1) := by decide +kernel
theorem d217_6 : decode mt217.2.1 6 = .ok (.if_icmp .lt 10, 3) := by decide +kernel
theorem d217_9 : decode mt217.2.1 9 = .ok (.aload_n 2, 1) := by decide +kernel
theorem d217_10 : decode mt217.2.1 10 = .ok (.iload_n 0, 1) := by decide +kernel
theorem d217_11 : decode mt217.2.1 11 = .ok (.iload_n 1, 1) := by decide +kernel
theorem d217_16 : decode mt217.2.1 16 = .ok (.iload_n 0, 1) := by decide +kernel
theorem d217_17 : decode mt217.2.1 17 = .ok (.ireturn, 1) := by decide +kernel
noncomputable def pg217_0 : List (Nat × aP) := [(0, oLdI 0 1),
  (1, oIf (fun x => x < 0) 9 4),
  (4, oLdI 0 5),
  (5, oLdI 1 6),
  (6, oIc (fun x y => x < y) 16 9),
  (9, oLdA 2 10),
  (10, oLdI 0 11),
  (11, oLdI 1 12),
  (16, oLdI 0 17),
  (17, oRetI)]
theorem ok217_0 : ∀ q ∈ pg217_0, Sim mT mt217 q.1 q.2 ∧ Grow q.2 :=
  List.forall_mem_cons.mpr ⟨⟨sim_iload_n d217_0 rfl, gr_LdI 0 1⟩,
  List.forall_mem_cons.mpr ⟨⟨sim_if_lt d217_1 (by decide), gr_If (fun x => x < 0) 9 4⟩,
  List.forall_mem_cons.mpr ⟨⟨sim_iload_n d217_4 rfl, gr_LdI 0 5⟩,
  List.forall_mem_cons.mpr ⟨⟨sim_iload_n d217_5 rfl, gr_LdI 1 6⟩,
  List.forall_mem_cons.mpr ⟨⟨sim_icmp_lt d217_6 (by decide), gr_Ic (fun x y => x < y) 16 9⟩,
  List.forall_mem_cons.mpr ⟨⟨sim_aload_n d217_9 rfl, gr_LdA 2 10⟩,
  List.forall_mem_cons.mpr ⟨⟨sim_iload_n d217_10 rfl, gr_LdI 0 11⟩,
  List.forall_mem_cons.mpr ⟨⟨sim_iload_n d217_11 rfl, gr_LdI 1 12⟩,
  List.forall_mem_cons.mpr ⟨⟨sim_iload_n d217_16 rfl, gr_LdI 0 17⟩,
  List.forall_mem_cons.mpr ⟨⟨sim_ireturn d217_17 rfl, gr_RetI⟩, fun _ h => absurd h List.not_mem_nil⟩⟩⟩⟩⟩⟩⟩⟩⟩⟩
noncomputable def pg217 : List (Nat × aP) := pg217_0
theorem ok217 : ∀ q ∈ pg217, Sim mT mt217 q.1 q.2 ∧ Grow q.2 := ok217_0
theorem d218_0 : decode mt218.2.1 0 = .ok (.new 7, 3) := by decide +kernel
theorem d218_3 : decode mt218.2.1 3 = .ok (.dup, 1) := by decide +kernel
theorem d218_4 : decode mt218.2.1 4 = .ok (.invokespecial 9, 3) := by decide +kernel
theorem d218_7 : decode mt218.2.1 7 = .ok (.astore_n 1, 1) := by decide +kernel
theorem d218_8 : decode mt218.2.1 8 = .ok (.new 10, 3) := by decide +kernel
theorem d218_11 : decode mt218.2.1 11 = .ok (.dup, 1) := by decide +kernel
theorem d218_12 : decode mt218.2.1 12 = .ok (.invokespecial 12, 3) := by decide +kernel
theorem d218_15 : decode mt218.2.1 15 = .ok (.astore_n 2, 1) := by decide +kernel
theorem d218_16 : decode mt218.2.1 16 = .ok (.iconst 0, 1) := by decide +kernel
theorem d218_17 : decode mt218.2.1 17 = .ok (.istore_n 3, 1) := by decide +kernel
theorem d218_18 : decode mt218.2.1 18 = .ok (.iload_n 3, 1) := by decide +kernel
theorem d218_19 : decode mt218.2.1 19 = .ok (.aload_n 0, 1) := by decide +kernel
theorem d218_20 : decode mt218.2.1 20 = .ok (.arraylength, 1) := by decide +kernel
theorem d218_21 : decode mt218.2.1 21 = .ok (.bipush 6, 2) := by decide +kernel
theorem d218_23 : decode mt218.2.1 23 = .ok (.isub, 1) := by decide +kernel
theorem d218_24 : decode mt218.2.1 24 = .ok (.if_icmp .gt 1029, 3) := by decide +kernel
theorem d218_27 : decode mt218.2.1 27 = .ok (.aload_n 0, 1) := by decide +kernel
theorem d218_28 : decode mt218.2.1 28 = .ok (.iload_n 3, 1) := by decide +kernel
theorem d218_29 : decode mt218.2.1 29 = .ok (.iaload, 1) := by decide +kernel
theorem d218_30 : decode mt218.2.1 30 = .ok (.bipush 31, 2) := by decide +kernel
theorem d218_32 : decode mt218.2.1 32 = .ok (.iand, 1) := by decide +kernel
theorem d218_33 : decode mt218.2.1 33 = .ok (.tableswitch 1014 0 26 #[123, 166, 209, 272, 295, 358, 371, 384, 417, 470, 523, 546, 579, 602, 645, 668, 691, 734, 767, 820, 843, 866, 889, 922, 955, 978, 1001], 123) := by decide +kernel
theorem d218_156 : decode mt218.2.1 156 = .ok (.aload_n 1, 1) := by decide +kernel
theorem d218_157 : decode mt218.2.1 157 = .ok (.aload_n 0, 1) := by decide +kernel
theorem d218_158 : decode mt218.2.1 158 = .ok (.iload_n 3, 1) := by decide +kernel
theorem d218_159 : decode mt218.2.1 159 = .ok (.iconst 1, 1) := by decide +kernel
theorem d218_160 : decode mt218.2.1 160 = .ok (.iadd, 1) := by decide +kernel
theorem d218_161 : decode mt218.2.1 161 = .ok (.iaload, 1) := by decide +kernel
theorem d218_162 : decode mt218.2.1 162 = .ok (.aload_n 0, 1) := by decide +kernel
theorem d218_163 : decode mt218.2.1 163 = .ok (.iload_n 3, 1) := by decide +kernel
theorem d218_164 : decode mt218.2.1 164 = .ok (.iconst 2, 1) := by decide +kernel
theorem d218_165 : decode mt218.2.1 165 = .ok (.iadd, 1) := by decide +kernel
theorem d218_166 : decode mt218.2.1 166 = .ok (.iaload, 1) := by decide +kernel
theorem d218_167 : decode mt218.2.1 167 = .ok (.aload_n 0, 1) := by decide +kernel
theorem d218_168 : decode mt218.2.1 168 = .ok (.iload_n 3, 1) := by decide +kernel
theorem d218_169 : decode mt218.2.1 169 = .ok (.iconst 3, 1) := by decide +kernel
theorem d218_170 : decode mt218.2.1 170 = .ok (.iadd, 1) := by decide +kernel
theorem d218_171 : decode mt218.2.1 171 = .ok (.iaload, 1) := by decide +kernel
theorem d218_172 : decode mt218.2.1 172 = .ok (.invokevirtual 13, 3) := by decide +kernel
theorem d218_175 : decode mt218.2.1 175 = .ok (.aload_n 2, 1) := by decide +kernel
theorem d218_176 : decode mt218.2.1 176 = .ok (.aload_n 0, 1) := by decide +kernel
theorem d218_177 : decode mt218.2.1 177 = .ok (.iload_n 3, 1) := by decide +kernel
theorem d218_178 : decode mt218.2.1 178 = .ok (.iconst 1, 1) := by decide +kernel
theorem d218_179 : decode mt218.2.1 179 = .ok (.iadd, 1) := by decide +kernel
theorem d218_180 : decode mt218.2.1 180 = .ok (.iaload, 1) := by decide +kernel
theorem d218_181 : decode mt218.2.1 181 = .ok (.aload_n 0, 1) := by decide +kernel
theorem d218_182 : decode mt218.2.1 182 = .ok (.iload_n 3, 1) := by decide +kernel
theorem d218_183 : decode mt218.2.1 183 = .ok (.iconst 2, 1) := by decide +kernel
theorem d218_184 : decode mt218.2.1 184 = .ok (.iadd, 1) := by decide +kernel
theorem d218_185 : decode mt218.2.1 185 = .ok (.iaload, 1) := by decide +kernel
theorem d218_186 : decode mt218.2.1 186 = .ok (.aload_n 0, 1) := by decide +kernel
theorem d218_187 : decode mt218.2.1 187 = .ok (.iload_n 3, 1) := by decide +kernel
theorem d218_188 : decode mt218.2.1 188 = .ok (.iconst 3, 1) := by decide +kernel
theorem d218_189 : decode mt218.2.1 189 = .ok (.iadd, 1) := by decide +kernel
theorem d218_190 : decode mt218.2.1 190 = .ok (.iaload, 1) := by decide +kernel
theorem d218_191 : decode mt218.2.1 191 = .ok (.invokevirtual 17, 3) := by decide +kernel
theorem d218_194 : decode mt218.2.1 194 = .ok (.if_icmp .eq 853, 3) := by decide +kernel
theorem d218_197 : decode mt218.2.1 197 = .ok (.iconst 0, 1) := by decide +kernel
theorem d218_198 : decode mt218.2.1 198 = .ok (.ireturn, 1) := by decide +kernel
theorem d218_199 : decode mt218.2.1 199 = .ok (.aload_n 1, 1) := by decide +kernel
theorem d218_200 : decode mt218.2.1 200 = .ok (.aload_n 0, 1) := by decide +kernel
theorem d218_201 : decode mt218.2.1 201 = .ok (.iload_n 3, 1) := by decide +kernel
theorem d218_202 : decode mt218.2.1 202 = .ok (.iconst 1, 1) := by decide +kernel
theorem d218_203 : decode mt218.2.1 203 = .ok (.iadd, 1) := by decide +kernel
theorem d218_204 : decode mt218.2.1 204 = .ok (.iaload, 1) := by decide +kernel
theorem d218_205 : decode mt218.2.1 205 = .ok (.aload_n 0, 1) := by decide +kernel
theorem d218_206 : decode mt218.2.1 206 = .ok (.iload_n 3, 1) := by decide +kernel
theorem d218_207 : decode mt218.2.1 207 = .ok (.iconst 2, 1) := by decide +kernel
theorem d218_208 : decode mt218.2.1 208 = .ok (.iadd, 1) := by decide +kernel
theorem d218_209 : decode mt218.2.1 209 = .ok (.iaload, 1) := by decide +kernel
theorem d218_210 : decode mt218.2.1 210 = .ok (.aload_n 0, 1) := by decide +kernel
theorem d218_211 : decode mt218.2.1 211 = .ok (.iload_n 3, 1) := by decide +kernel
theorem d218_212 : decode mt218.2.1 212 = .ok (.iconst 3, 1) := by decide +kernel
theorem d218_213 : decode mt218.2.1 213 = .ok (.iadd, 1) := by decide +kernel
theorem d218_214 : decode mt218.2.1 214 = .ok (.iaload, 1) := by decide +kernel
theorem d218_215 : decode mt218.2.1 215 = .ok (.invokevirtual 18, 3) := by decide +kernel
theorem d218_218 : decode mt218.2.1 218 = .ok (.aload_n 2, 1) := by decide +kernel
theorem d218_219 : decode mt218.2.1 219 = .ok (.aload_n 0, 1) := by decide +kernel
theorem d218_220 : decode mt218.2.1 220 = .ok (.iload_n 3, 1) := by decide +kernel
theorem d218_221 : decode mt218.2.1 221 = .ok (.iconst 1, 1) := by decide +kernel
theorem d218_222 : decode mt218.2.1 222 = .ok (.iadd, 1) := by decide +kernel
theorem d218_223 : decode mt218.2.1 223 = .ok (.iaload, 1) := by decide +kernel
theorem d218_224 : decode mt218.2.1 224 = .ok (.aload_n 0, 1) := by decide +kernel
theorem d218_225 : decode mt218.2.1 225 = .ok (.iload_n 3, 1) := by decide +kernel
theorem d218_226 : decode mt218.2.1 226 = .ok (.iconst 2, 1) := by decide +kernel
theorem d218_227 : decode mt218.2.1 227 = .ok (.iadd, 1) := by decide +kernel
theorem d218_228 : decode mt218.2.1 228 = .ok (.iaload, 1) := by decide +kernel
theorem d218_229 : decode mt218.2.1 229 = .ok (.aload_n 0, 1) := by decide +kernel
theorem d218_230 : decode mt218.2.1 230 = .ok (.iload_n 3, 1) := by decide +kernel
theorem d218_231 : decode mt218.2.1 231 = .ok (.iconst 3, 1) := by decide +kernel
theorem d218_232 : decode mt218.2.1 232 = .ok (.iadd, 1) := by decide +kernel
theorem d218_233 : decode mt218.2.1 233 = .ok (.iaload, 1) := by decide +kernel
theorem d218_234 : decode mt218.2.1 234 = .ok (.invokevirtual 21, 3) := by decide +kernel
theorem d218_237 : decode mt218.2.1 237 = .ok (.if_icmp .eq 810, 3) := by decide +kernel
theorem d218_240 : decode mt218.2.1 240 = .ok (.iconst 0, 1) := by decide +kernel
theorem d218_241 : decode mt218.2.1 241 = .ok (.ireturn, 1) := by decide +kernel
theorem d218_242 : decode mt218.2.1 242 = .ok (.aload_n 1, 1) := by decide +kernel
theorem d218_243 : decode mt218.2.1 243 = .ok (.aload_n 0, 1) := by decide +kernel
theorem d218_244 : decode mt218.2.1 244 = .ok (.iload_n 3, 1) := by decide +kernel
theorem d218_245 : decode mt218.2.1 245 = .ok (.iconst 1, 1) := by decide +kernel
theorem d218_246 : decode mt218.2.1 246 = .ok (.iadd, 1) := by decide +kernel
theorem d218_247 : decode mt218.2.1 247 = .ok (.iaload, 1) := by decide +kernel
theorem d218_248 : decode mt218.2.1 248 = .ok (.aload_n 0, 1) := by decide +kernel
theorem d218_249 : decode mt218.2.1 249 = .ok (.iload_n 3, 1) := by decide +kernel
theorem d218_250 : decode mt218.2.1 250 = .ok (.iconst 2, 1) := by decide +kernel
theorem d218_251 : decode mt218.2.1 251 = .ok (.iadd, 1) := by decide +kernel
theorem d218_252 : decode mt218.2.1 252 = .ok (.iaload, 1) := by decide +kernel
theorem d218_253 : decode mt218.2.1 253 = .ok (.aload_n 0, 1) := by decide +kernel
theorem d218_254 : decode mt218.2.1 254 = .ok (.iload_n 3, 1) := by decide +kernel
theorem d218_255 : decode mt218.2.1 255 = .ok (.iconst 3, 1) := by decide +kernel
theorem d218_256 : decode mt218.2.1 256 = .ok (.iadd, 1) := by decide +kernel
theorem d218_257 : decode mt218.2.1 257 = .ok (.iaload, 1) := by decide +kernel
theorem d218_258 : decode mt218.2.1 258 = .ok (.aload_n 0, 1) := by decide +kernel
theorem d218_259 : decode mt218.2.1 259 = .ok (.iload_n 3, 1) := by decide +kernel
theorem d218_260 : decode mt218.2.1 260 = .ok (.iconst 4, 1) := by decide +kernel
theorem d218_261 : decode mt218.2.1 261 = .ok (.iadd, 1) := by decide +kernel
theorem d218_262 : decode mt218.2.1 262 = .ok (.iaload, 1) := by decide +kernel
theorem d218_263 : decode mt218.2.1 263 = .ok (.aload_n 0, 1) := by decide +kernel
theorem d218_264 : decode mt218.2.1 264 = .ok (.iload_n 3, 1) := by decide +kernel
theorem d218_265 : decode mt218.2.1 265 = .ok (.iconst 5, 1) := by decide +kernel
theorem d218_266 : decode mt218.2.1 266 = .ok (.iadd, 1) := by decide +kernel
theorem d218_267 : decode mt218.2.1 267 = .ok (.iaload, 1) := by decide +kernel
theorem d218_268 : decode mt218.2.1 268 = .ok (.invokevirtual 22, 3) := by decide +kernel
theorem d218_271 : decode mt218.2.1 271 = .ok (.aload_n 2, 1) := by decide +kernel
theorem d218_272 : decode mt218.2.1 272 = .ok (.aload_n 0, 1) := by decide +kernel
theorem d218_273 : decode mt218.2.1 273 = .ok (.iload_n 3, 1) := by decide +kernel
theorem d218_274 : decode mt218.2.1 274 = .ok (.iconst 1, 1) := by decide +kernel
theorem d218_275 : decode mt218.2.1 275 = .ok (.iadd, 1) := by decide +kernel
theorem d218_276 : decode mt218.2.1 276 = .ok (.iaload, 1) := by decide +kernel
theorem d218_277 : decode mt218.2.1 277 = .ok (.aload_n 0, 1) := by decide +kernel
theorem d218_278 : decode mt218.2.1 278 = .ok (.iload_n 3, 1) := by decide +kernel
theorem d218_279 : decode mt218.2.1 279 = .ok (.iconst 2, 1) := by decide +kernel
theorem d218_280 : decode mt218.2.1 280 = .ok (.iadd, 1) := by decide +kernel
theorem d218_281 : decode mt218.2.1 281 = .ok (.iaload, 1) := by decide +kernel
theorem d218_282 : decode mt218.2.1 282 = .ok (.aload_n 0, 1) := by decide +kernel
theorem d218_283 : decode mt218.2.1 283 = .ok (.iload_n 3, 1) := by decide +kernel
theorem d218_284 : decode mt218.2.1 284 = .ok (.iconst 3, 1) := by decide +kernel
theorem d218_285 : decode mt218.2.1 285 = .ok (.iadd, 1) := by decide +kernel
theorem d218_286 : decode mt218.2.1 286 = .ok (.iaload, 1) := by decide +kernel
theorem d218_287 : decode mt218.2.1 287 = .ok (.aload_n 0, 1) := by decide +kernel
theorem d218_288 : decode mt218.2.1 288 = .ok (.iload_n 3, 1) := by decide +kernel
theorem d218_289 : decode mt218.2.1 289 = .ok (.iconst 4, 1) := by decide +kernel
theorem d218_290 : decode mt218.2.1 290 = .ok (.iadd, 1) := by decide +kernel
theorem d218_291 : decode mt218.2.1 291 = .ok (.iaload, 1) := by decide +kernel
theorem d218_292 : decode mt218.2.1 292 = .ok (.aload_n 0, 1) := by decide +kernel
theorem d218_293 : decode mt218.2.1 293 = .ok (.iload_n 3, 1) := by decide +kernel
theorem d218_294 : decode mt218.2.1 294 = .ok (.iconst 5, 1) := by decide +kernel
theorem d218_295 : decode mt218.2.1 295 = .ok (.iadd, 1) := by decide +kernel
theorem d218_296 : decode mt218.2.1 296 = .ok (.iaload, 1) := by decide +kernel
theorem d218_297 : decode mt218.2.1 297 = .ok (.invokevirtual 26, 3) := by decide +kernel
theorem d218_300 : decode mt218.2.1 300 = .ok (.if_icmp .eq 747, 3) := by decide +kernel
theorem d218_303 : decode mt218.2.1 303 = .ok (.iconst 0, 1) := by decide +kernel
theorem d218_304 : decode mt218.2.1 304 = .ok (.ireturn, 1) := by decide +kernel
theorem d218_305 : decode mt218.2.1 305 = .ok (.aload_n 1, 1) := by decide +kernel
theorem d218_306 : decode mt218.2.1 306 = .ok (.aload_n 0, 1) := by decide +kernel
theorem d218_307 : decode mt218.2.1 307 = .ok (.iload_n 3, 1) := by decide +kernel
theorem d218_308 : decode mt218.2.1 308 = .ok (.iconst 1, 1) := by decide +kernel
theorem d218_309 : decode mt218.2.1 309 = .ok (.iadd, 1) := by decide +kernel
theorem d218_310 : decode mt218.2.1 310 = .ok (.iaload, 1) := by decide +kernel
theorem d218_311 : decode mt218.2.1 311 = .ok (.invokevirtual 27, 3) := by decide +kernel
theorem d218_314 : decode mt218.2.1 314 = .ok (.aload_n 2, 1) := by decide +kernel
theorem d218_315 : decode mt218.2.1 315 = .ok (.aload_n 0, 1) := by decide +kernel
theorem d218_316 : decode mt218.2.1 316 = .ok (.iload_n 3, 1) := by decide +kernel
theorem d218_317 : decode mt218.2.1 317 = .ok (.iconst 1, 1) := by decide +kernel
theorem d218_318 : decode mt218.2.1 318 = .ok (.iadd, 1) := by decide +kernel
theorem d218_319 : decode mt218.2.1 319 = .ok (.iaload, 1) := by decide +kernel
theorem d218_320 : decode mt218.2.1 320 = .ok (.invokevirtual 31, 3) := by decide +kernel
theorem d218_323 : decode mt218.2.1 323 = .ok (.if_icmp .eq 724, 3) := by decide +kernel
theorem d218_326 : decode mt218.2.1 326 = .ok (.iconst 0, 1) := by decide +kernel
theorem d218_327 : decode mt218.2.1 327 = .ok (.ireturn, 1) := by decide +kernel
theorem d218_328 : decode mt218.2.1 328 = .ok (.aload_n 1, 1) := by decide +kernel
theorem d218_329 : decode mt218.2.1 329 = .ok (.aload_n 0, 1) := by decide +kernel
theorem d218_330 : decode mt218.2.1 330 = .ok (.iload_n 3, 1) := by decide +kernel
theorem d218_331 : decode mt218.2.1 331 = .ok (.iconst 1, 1) := by decide +kernel
theorem d218_332 : decode mt218.2.1 332 = .ok (.iadd, 1) := by decide +kernel
theorem d218_333 : decode mt218.2.1 333 = .ok (.iaload, 1) := by decide +kernel
theorem d218_334 : decode mt218.2.1 334 = .ok (.i2l, 1) := by decide +kernel
theorem d218_335 : decode mt218.2.1 335 = .ok (.bipush 32, 2) := by decide +kernel
theorem d218_337 : decode mt218.2.1 337 = .ok (.lshl, 1) := by decide +kernel
theorem d218_338 : decode mt218.2.1 338 = .ok (.aload_n 0, 1) := by decide +kernel
theorem d218_339 : decode mt218.2.1 339 = .ok (.iload_n 3, 1) := by decide +kernel
theorem d218_340 : decode mt218.2.1 340 = .ok (.iconst 2, 1) := by decide +kernel
theorem d218_341 : decode mt218.2.1 341 = .ok (.iadd, 1) := by decide +kernel
theorem d218_342 : decode mt218.2.1 342 = .ok (.iaload, 1) := by decide +kernel
theorem d218_343 : decode mt218.2.1 343 = .ok (.i2l, 1) := by decide +kernel
theorem d218_344 : decode mt218.2.1 344 = .ok (.ldc2_w 32, 3) := by decide +kernel
theorem d218_347 : decode mt218.2.1 347 = .ok (.land, 1) := by decide +kernel
theorem d218_348 : decode mt218.2.1 348 = .ok (.lor, 1) := by decide +kernel
theorem d218_349 : decode mt218.2.1 349 = .ok (.aload_n 0, 1) := by decide +kernel
theorem d218_350 : decode mt218.2.1 350 = .ok (.iload_n 3, 1) := by decide +kernel
theorem d218_351 : decode mt218.2.1 351 = .ok (.iconst 3, 1) := by decide +kernel
theorem d218_352 : decode mt218.2.1 352 = .ok (.iadd, 1) := by decide +kernel
theorem d218_353 : decode mt218.2.1 353 = .ok (.iaload, 1) := by decide +kernel
theorem d218_354 : decode mt218.2.1 354 = .ok (.invokevirtual 34, 3) := by decide +kernel
theorem d218_357 : decode mt218.2.1 357 = .ok (.aload_n 2, 1) := by decide +kernel
theorem d218_358 : decode mt218.2.1 358 = .ok (.aload_n 0, 1) := by decide +kernel
theorem d218_359 : decode mt218.2.1 359 = .ok (.iload_n 3, 1) := by decide +kernel
theorem d218_360 : decode mt218.2.1 360 = .ok (.iconst 1, 1) := by decide +kernel
theorem d218_361 : decode mt218.2.1 361 = .ok (.iadd, 1) := by decide +kernel
theorem d218_362 : decode mt218.2.1 362 = .ok (.iaload, 1) := by decide +kernel
theorem d218_363 : decode mt218.2.1 363 = .ok (.i2l, 1) := by decide +kernel
theorem d218_364 : decode mt218.2.1 364 = .ok (.bipush 32, 2) := by decide +kernel
theorem d218_366 : decode mt218.2.1 366 = .ok (.lshl, 1) := by decide +kernel
theorem d218_367 : decode mt218.2.1 367 = .ok (.aload_n 0, 1) := by decide +kernel
theorem d218_368 : decode mt218.2.1 368 = .ok (.iload_n 3, 1) := by decide +kernel
theorem d218_369 : decode mt218.2.1 369 = .ok (.iconst 2, 1) := by decide +kernel
theorem d218_370 : decode mt218.2.1 370 = .ok (.iadd, 1) := by decide +kernel
theorem d218_371 : decode mt218.2.1 371 = .ok (.iaload, 1) := by decide +kernel
theorem d218_372 : decode mt218.2.1 372 = .ok (.i2l, 1) := by decide +kernel
theorem d218_373 : decode mt218.2.1 373 = .ok (.ldc2_w 32, 3) := by decide +kernel
theorem d218_376 : decode mt218.2.1 376 = .ok (.land, 1) := by decide +kernel
theorem d218_377 : decode mt218.2.1 377 = .ok (.lor, 1) := by decide +kernel
theorem d218_378 : decode mt218.2.1 378 = .ok (.aload_n 0, 1) := by decide +kernel
theorem d218_379 : decode mt218.2.1 379 = .ok (.iload_n 3, 1) := by decide +kernel
theorem d218_380 : decode mt218.2.1 380 = .ok (.iconst 3, 1) := by decide +kernel
theorem d218_381 : decode mt218.2.1 381 = .ok (.iadd, 1) := by decide +kernel
theorem d218_382 : decode mt218.2.1 382 = .ok (.iaload, 1) := by decide +kernel
theorem d218_383 : decode mt218.2.1 383 = .ok (.invokevirtual 38, 3) := by decide +kernel
theorem d218_386 : decode mt218.2.1 386 = .ok (.if_icmp .eq 661, 3) := by decide +kernel
theorem d218_389 : decode mt218.2.1 389 = .ok (.iconst 0, 1) := by decide +kernel
theorem d218_390 : decode mt218.2.1 390 = .ok (.ireturn, 1) := by decide +kernel
theorem d218_391 : decode mt218.2.1 391 = .ok (.aload_n 1, 1) := by decide +kernel
theorem d218_392 : decode mt218.2.1 392 = .ok (.invokevirtual 39, 3) := by decide +kernel
theorem d218_395 : decode mt218.2.1 395 = .ok (.aload_n 2, 1) := by decide +kernel
theorem d218_396 : decode mt218.2.1 396 = .ok (.invokevirtual 43, 3) := by decide +kernel
theorem d218_399 : decode mt218.2.1 399 = .ok (.if_icmp .eq 648, 3) := by decide +kernel
theorem d218_402 : decode mt218.2.1 402 = .ok (.iconst 0, 1) := by decide +kernel
theorem d218_403 : decode mt218.2.1 403 = .ok (.ireturn, 1) := by decide +kernel
theorem d218_404 : decode mt218.2.1 404 = .ok (.aload_n 1, 1) := by decide +kernel
theorem d218_405 : decode mt218.2.1 405 = .ok (.invokevirtual 44, 3) := by decide +kernel
theorem d218_408 : decode mt218.2.1 408 = .ok (.aload_n 2, 1) := by decide +kernel
theorem d218_409 : decode mt218.2.1 409 = .ok (.invokevirtual 47, 3) := by decide +kernel
theorem d218_412 : decode mt218.2.1 412 = .ok (.if_icmp .eq 635, 3) := by decide +kernel
theorem d218_415 : decode mt218.2.1 415 = .ok (.iconst 0, 1) := by decide +kernel
theorem d218_416 : decode mt218.2.1 416 = .ok (.ireturn, 1) := by decide +kernel
theorem d218_417 : decode mt218.2.1 417 = .ok (.aload_n 1, 1) := by decide +kernel
theorem d218_418 : decode mt218.2.1 418 = .ok (.aload_n 0, 1) := by decide +kernel
theorem d218_419 : decode mt218.2.1 419 = .ok (.iload_n 3, 1) := by decide +kernel
theorem d218_420 : decode mt218.2.1 420 = .ok (.iconst 1, 1) := by decide +kernel
theorem d218_421 : decode mt218.2.1 421 = .ok (.iadd, 1) := by decide +kernel
theorem d218_422 : decode mt218.2.1 422 = .ok (.iaload, 1) := by decide +kernel
theorem d218_423 : decode mt218.2.1 423 = .ok (.aload_n 0, 1) := by decide +kernel
theorem d218_424 : decode mt218.2.1 424 = .ok (.iload_n 3, 1) := by decide +kernel
theorem d218_425 : decode mt218.2.1 425 = .ok (.iconst 2, 1) := by decide +kernel
theorem d218_426 : decode mt218.2.1 426 = .ok (.iadd, 1) := by decide +kernel
theorem d218_427 : decode mt218.2.1 427 = .ok (.iaload, 1) := by decide +kernel
theorem d218_428 : decode mt218.2.1 428 = .ok (.invokevirtual 48, 3) := by decide +kernel
theorem d218_431 : decode mt218.2.1 431 = .ok (.aload_n 2, 1) := by decide +kernel
theorem d218_432 : decode mt218.2.1 432 = .ok (.aload_n 0, 1) := by decide +kernel
theorem d218_433 : decode mt218.2.1 433 = .ok (.iload_n 3, 1) := by decide +kernel
theorem d218_434 : decode mt218.2.1 434 = .ok (.iconst 1, 1) := by decide +kernel
theorem d218_435 : decode mt218.2.1 435 = .ok (.iadd, 1) := by decide +kernel
theorem d218_436 : decode mt218.2.1 436 = .ok (.iaload, 1) := by decide +kernel
theorem d218_437 : decode mt218.2.1 437 = .ok (.aload_n 0, 1) := by decide +kernel
theorem d218_438 : decode mt218.2.1 438 = .ok (.iload_n 3, 1) := by decide +kernel
theorem d218_439 : decode mt218.2.1 439 = .ok (.iconst 2, 1) := by decide +kernel
theorem d218_440 : decode mt218.2.1 440 = .ok (.iadd, 1) := by decide +kernel
theorem d218_441 : decode mt218.2.1 441 = .ok (.iaload, 1) := by decide +kernel
theorem d218_442 : decode mt218.2.1 442 = .ok (.invokevirtual 52, 3) := by decide +kernel
theorem d218_445 : decode mt218.2.1 445 = .ok (.if_icmp .eq 602, 3) := by decide +kernel
theorem d218_448 : decode mt218.2.1 448 = .ok (.iconst 0, 1) := by decide +kernel
theorem d218_449 : decode mt218.2.1 449 = .ok (.ireturn, 1) := by decide +kernel
theorem d218_450 : decode mt218.2.1 450 = .ok (.aload_n 1, 1) := by decide +kernel
theorem d218_451 : decode mt218.2.1 451 = .ok (.aload_n 0, 1) := by decide +kernel
theorem d218_452 : decode mt218.2.1 452 = .ok (.iload_n 3, 1) := by decide +kernel
theorem d218_453 : decode mt218.2.1 453 = .ok (.iconst 1, 1) := by decide +kernel
theorem d218_454 : decode mt218.2.1 454 = .ok (.iadd, 1) := by decide +kernel
theorem d218_455 : decode mt218.2.1 455 = .ok (.iaload, 1) := by decide +kernel
theorem d218_456 : decode mt218.2.1 456 = .ok (.aload_n 0, 1) := by decide +kernel
theorem d218_457 : decode mt218.2.1 457 = .ok (.iload_n 3, 1) := by decide +kernel
theorem d218_458 : decode mt218.2.1 458 = .ok (.iconst 2, 1) := by decide +kernel
theorem d218_459 : decode mt218.2.1 459 = .ok (.iadd, 1) := by decide +kernel
theorem d218_460 : decode mt218.2.1 460 = .ok (.iaload, 1) := by decide +kernel
theorem d218_461 : decode mt218.2.1 461 = .ok (.aload_n 0, 1) := by decide +kernel
theorem d218_462 : decode mt218.2.1 462 = .ok (.iload_n 3, 1) := by decide +kernel
theorem d218_463 : decode mt218.2.1 463 = .ok (.iconst 3, 1) := by decide +kernel
theorem d218_464 : decode mt218.2.1 464 = .ok (.iadd, 1) := by decide +kernel
theorem d218_465 : decode mt218.2.1 465 = .ok (.iaload, 1) := by decide +kernel
theorem d218_466 : decode mt218.2.1 466 = .ok (.aload_n 0, 1) := by decide +kernel
theorem d218_467 : decode mt218.2.1 467 = .ok (.iload_n 3, 1) := by decide +kernel
theorem d218_468 : decode mt218.2.1 468 = .ok (.iconst 4, 1) := by decide +kernel
theorem d218_469 : decode mt218.2.1 469 = .ok (.iadd, 1) := by decide +kernel
theorem d218_470 : decode mt218.2.1 470 = .ok (.iaload, 1) := by decide +kernel
theorem d218_471 : decode mt218.2.1 471 = .ok (.invokevirtual 53, 3) := by decide +kernel
theorem d218_474 : decode mt218.2.1 474 = .ok (.aload_n 2, 1) := by decide +kernel
theorem d218_475 : decode mt218.2.1 475 = .ok (.aload_n 0, 1) := by decide +kernel
theorem d218_476 : decode mt218.2.1 476 = .ok (.iload_n 3, 1) := by decide +kernel
theorem d218_477 : decode mt218.2.1 477 = .ok (.iconst 1, 1) := by decide +kernel
theorem d218_478 : decode mt218.2.1 478 = .ok (.iadd, 1) := by decide +kernel
theorem d218_479 : decode mt218.2.1 479 = .ok (.iaload, 1) := by decide +kernel
theorem d218_480 : decode mt218.2.1 480 = .ok (.aload_n 0, 1) := by decide +kernel
theorem d218_481 : decode mt218.2.1 481 = .ok (.iload_n 3, 1) := by decide +kernel
theorem d218_482 : decode mt218.2.1 482 = .ok (.iconst 2, 1) := by decide +kernel
theorem d218_483 : decode mt218.2.1 483 = .ok (.iadd, 1) := by decide +kernel
theorem d218_484 : decode mt218.2.1 484 = .ok (.iaload, 1) := by decide +kernel
theorem d218_485 : decode mt218.2.1 485 = .ok (.aload_n 0, 1) := by decide +kernel
theorem d218_486 : decode mt218.2.1 486 = .ok (.iload_n 3, 1) := by decide +kernel
theorem d218_487 : decode mt218.2.1 487 = .ok (.iconst 3, 1) := by decide +kernel
theorem d218_488 : decode mt218.2.1 488 = .ok (.iadd, 1) := by decide +kernel
theorem d218_489 : decode mt218.2.1 489 = .ok (.iaload, 1) := by decide +kernel
theorem d218_490 : decode mt218.2.1 490 = .ok (.aload_n 0, 1) := by decide +kernel
theorem d218_491 : decode mt218.2.1 491 = .ok (.iload_n 3, 1) := by decide +kernel
theorem d218_492 : decode mt218.2.1 492 = .ok (.iconst 4, 1) := by decide +kernel
theorem d218_493 : decode mt218.2.1 493 = .ok (.iadd, 1) := by decide +kernel
theorem d218_494 : decode mt218.2.1 494 = .ok (.iaload, 1) := by decide +kernel
theorem d218_495 : decode mt218.2.1 495 = .ok (.invokevirtual 57, 3) := by decide +kernel
theorem d218_498 : decode mt218.2.1 498 = .ok (.if_icmp .eq 549, 3) := by decide +kernel
theorem d218_501 : decode mt218.2.1 501 = .ok (.iconst 0, 1) := by decide +kernel
theorem d218_502 : decode mt218.2.1 502 = .ok (.ireturn, 1) := by decide +kernel
theorem d218_503 : decode mt218.2.1 503 = .ok (.aload_n 1, 1) := by decide +kernel
theorem d218_504 : decode mt218.2.1 504 = .ok (.aload_n 0, 1) := by decide +kernel
theorem d218_505 : decode mt218.2.1 505 = .ok (.iload_n 3, 1) := by decide +kernel
theorem d218_506 : decode mt218.2.1 506 = .ok (.iconst 1, 1) := by decide +kernel
theorem d218_507 : decode mt218.2.1 507 = .ok (.iadd, 1) := by decide +kernel
theorem d218_508 : decode mt218.2.1 508 = .ok (.iaload, 1) := by decide +kernel
theorem d218_509 : decode mt218.2.1 509 = .ok (.aload_n 0, 1) := by decide +kernel
theorem d218_510 : decode mt218.2.1 510 = .ok (.iload_n 3, 1) := by decide +kernel
theorem d218_511 : decode mt218.2.1 511 = .ok (.iconst 2, 1) := by decide +kernel
theorem d218_512 : decode mt218.2.1 512 = .ok (.iadd, 1) := by decide +kernel
theorem d218_513 : decode mt218.2.1 513 = .ok (.iaload, 1) := by decide +kernel
theorem d218_514 : decode mt218.2.1 514 = .ok (.aload_n 0, 1) := by decide +kernel
theorem d218_515 : decode mt218.2.1 515 = .ok (.iload_n 3, 1) := by decide +kernel
theorem d218_516 : decode mt218.2.1 516 = .ok (.iconst 3, 1) := by decide +kernel
theorem d218_517 : decode mt218.2.1 517 = .ok (.iadd, 1) := by decide +kernel
theorem d218_518 : decode mt218.2.1 518 = .ok (.iaload, 1) := by decide +kernel
theorem d218_519 : decode mt218.2.1 519 = .ok (.aload_n 0, 1) := by decide +kernel
theorem d218_520 : decode mt218.2.1 520 = .ok (.iload_n 3, 1) := by decide +kernel
theorem d218_521 : decode mt218.2.1 521 = .ok (.iconst 4, 1) := by decide +kernel
theorem d218_522 : decode mt218.2.1 522 = .ok (.iadd, 1) := by decide +kernel
theorem d218_523 : decode mt218.2.1 523 = .ok (.iaload, 1) := by decide +kernel
theorem d218_524 : decode mt218.2.1 524 = .ok (.invokevirtual 58, 3) := by decide +kernel
theorem d218_527 : decode mt218.2.1 527 = .ok (.aload_n 2, 1) := by decide +kernel
theorem d218_528 : decode mt218.2.1 528 = .ok (.aload_n 0, 1) := by decide +kernel
theorem d218_529 : decode mt218.2.1 529 = .ok (.iload_n 3, 1) := by decide +kernel
theorem d218_530 : decode mt218.2.1 530 = .ok (.iconst 1, 1) := by decide +kernel
theorem d218_531 : decode mt218.2.1 531 = .ok (.iadd, 1) := by decide +kernel
theorem d218_532 : decode mt218.2.1 532 = .ok (.iaload, 1) := by decide +kernel
theorem d218_533 : decode mt218.2.1 533 = .ok (.aload_n 0, 1) := by decide +kernel
theorem d218_534 : decode mt218.2.1 534 = .ok (.iload_n 3, 1) := by decide +kernel
theorem d218_535 : decode mt218.2.1 535 = .ok (.iconst 2, 1) := by decide +kernel
theorem d218_536 : decode mt218.2.1 536 = .ok (.iadd, 1) := by decide +kernel
theorem d218_537 : decode mt218.2.1 537 = .ok (.iaload, 1) := by decide +kernel
theorem d218_538 : decode mt218.2.1 538 = .ok (.aload_n 0, 1) := by decide +kernel
theorem d218_539 : decode mt218.2.1 539 = .ok (.iload_n 3, 1) := by decide +kernel
theorem d218_540 : decode mt218.2.1 540 = .ok (.iconst 3, 1) := by decide +kernel
theorem d218_541 : decode mt218.2.1 541 = .ok (.iadd, 1) := by decide +kernel
theorem d218_542 : decode mt218.2.1 542 = .ok (.iaload, 1) := by decide +kernel
theorem d218_543 : decode mt218.2.1 543 = .ok (.aload_n 0, 1) := by decide +kernel
theorem d218_544 : decode mt218.2.1 544 = .ok (.iload_n 3, 1) := by decide +kernel
theorem d218_545 : decode mt218.2.1 545 = .ok (.iconst 4, 1) := by decide +kernel
theorem d218_546 : decode mt218.2.1 546 = .ok (.iadd, 1) := by decide +kernel
theorem d218_547 : decode mt218.2.1 547 = .ok (.iaload, 1) := by decide +kernel
theorem d218_548 : decode mt218.2.1 548 = .ok (.invokevirtual 61, 3) := by decide +kernel
theorem d218_551 : decode mt218.2.1 551 = .ok (.if_icmp .eq 496, 3) := by decide +kernel
theorem d218_554 : decode mt218.2.1 554 = .ok (.iconst 0, 1) := by decide +kernel
theorem d218_555 : decode mt218.2.1 555 = .ok (.ireturn, 1) := by decide +kernel
theorem d218_556 : decode mt218.2.1 556 = .ok (.aload_n 1, 1) := by decide +kernel
theorem d218_557 : decode mt218.2.1 557 = .ok (.aload_n 0, 1) := by decide +kernel
theorem d218_558 : decode mt218.2.1 558 = .ok (.iload_n 3, 1) := by decide +kernel
theorem d218_559 : decode mt218.2.1 559 = .ok (.iconst 1, 1) := by decide +kernel
theorem d218_560 : decode mt218.2.1 560 = .ok (.iadd, 1) := by decide +kernel
theorem d218_561 : decode mt218.2.1 561 = .ok (.iaload, 1) := by decide +kernel
theorem d218_562 : decode mt218.2.1 562 = .ok (.invokevirtual 62, 3) := by decide +kernel
theorem d218_565 : decode mt218.2.1 565 = .ok (.aload_n 2, 1) := by decide +kernel
theorem d218_566 : decode mt218.2.1 566 = .ok (.aload_n 0, 1) := by decide +kernel
theorem d218_567 : decode mt218.2.1 567 = .ok (.iload_n 3, 1) := by decide +kernel
theorem d218_568 : decode mt218.2.1 568 = .ok (.iconst 1, 1) := by decide +kernel
theorem d218_569 : decode mt218.2.1 569 = .ok (.iadd, 1) := by decide +kernel
theorem d218_570 : decode mt218.2.1 570 = .ok (.iaload, 1) := by decide +kernel
theorem d218_571 : decode mt218.2.1 571 = .ok (.invokevirtual 65, 3) := by decide +kernel
theorem d218_574 : decode mt218.2.1 574 = .ok (.if_icmp .eq 473, 3) := by decide +kernel
theorem d218_577 : decode mt218.2.1 577 = .ok (.iconst 0, 1) := by decide +kernel
theorem d218_578 : decode mt218.2.1 578 = .ok (.ireturn, 1) := by decide +kernel
theorem d218_579 : decode mt218.2.1 579 = .ok (.aload_n 1, 1) := by decide +kernel
theorem d218_580 : decode mt218.2.1 580 = .ok (.aload_n 0, 1) := by decide +kernel
theorem d218_581 : decode mt218.2.1 581 = .ok (.iload_n 3, 1) := by decide +kernel
theorem d218_582 : decode mt218.2.1 582 = .ok (.iconst 1, 1) := by decide +kernel
theorem d218_583 : decode mt218.2.1 583 = .ok (.iadd, 1) := by decide +kernel
theorem d218_584 : decode mt218.2.1 584 = .ok (.iaload, 1) := by decide +kernel
theorem d218_585 : decode mt218.2.1 585 = .ok (.aload_n 0, 1) := by decide +kernel
theorem d218_586 : decode mt218.2.1 586 = .ok (.iload_n 3, 1) := by decide +kernel
theorem d218_587 : decode mt218.2.1 587 = .ok (.iconst 2, 1) := by decide +kernel
theorem d218_588 : decode mt218.2.1 588 = .ok (.iadd, 1) := by decide +kernel
theorem d218_589 : decode mt218.2.1 589 = .ok (.iaload, 1) := by decide +kernel
theorem d218_590 : decode mt218.2.1 590 = .ok (.invokevirtual 66, 3) := by decide +kernel
theorem d218_593 : decode mt218.2.1 593 = .ok (.aload_n 2, 1) := by decide +kernel
theorem d218_594 : decode mt218.2.1 594 = .ok (.aload_n 0, 1) := by decide +kernel
theorem d218_595 : decode mt218.2.1 595 = .ok (.iload_n 3, 1) := by decide +kernel
theorem d218_596 : decode mt218.2.1 596 = .ok (.iconst 1, 1) := by decide +kernel
theorem d218_597 : decode mt218.2.1 597 = .ok (.iadd, 1) := by decide +kernel
theorem d218_598 : decode mt218.2.1 598 = .ok (.iaload, 1) := by decide +kernel
theorem d218_599 : decode mt218.2.1 599 = .ok (.aload_n 0, 1) := by decide +kernel
theorem d218_600 : decode mt218.2.1 600 = .ok (.iload_n 3, 1) := by decide +kernel
theorem d218_601 : decode mt218.2.1 601 = .ok (.iconst 2, 1) := by decide +kernel
theorem d218_602 : decode mt218.2.1 602 = .ok (.iadd, 1) := by decide +kernel
theorem d218_603 : decode mt218.2.1 603 = .ok (.iaload, 1) := by decide +kernel
theorem d218_604 : decode mt218.2.1 604 = .ok (.invokevirtual 69, 3) := by decide +kernel
theorem d218_607 : decode mt218.2.1 607 = .ok (.if_icmp .eq 440, 3) := by decide +kernel
theorem d218_610 : decode mt218.2.1 610 = .ok (.iconst 0, 1) := by decide +kernel
theorem d218_611 : decode mt218.2.1 611 = .ok (.ireturn, 1) := by decide +kernel
theorem d218_612 : decode mt218.2.1 612 = .ok (.aload_n 1, 1) := by decide +kernel
theorem d218_613 : decode mt218.2.1 613 = .ok (.aload_n 0, 1) := by decide +kernel
theorem d218_614 : decode mt218.2.1 614 = .ok (.iload_n 3, 1) := by decide +kernel
theorem d218_615 : decode mt218.2.1 615 = .ok (.iconst 1, 1) := by decide +kernel
theorem d218_616 : decode mt218.2.1 616 = .ok (.iadd, 1) := by decide +kernel
theorem d218_617 : decode mt218.2.1 617 = .ok (.iaload, 1) := by decide +kernel
theorem d218_618 : decode mt218.2.1 618 = .ok (.invokevirtual 70, 3) := by decide +kernel
theorem d218_621 : decode mt218.2.1 621 = .ok (.aload_n 2, 1) := by decide +kernel
theorem d218_622 : decode mt218.2.1 622 = .ok (.aload_n 0, 1) := by decide +kernel
theorem d218_623 : decode mt218.2.1 623 = .ok (.iload_n 3, 1) := by decide +kernel
theorem d218_624 : decode mt218.2.1 624 = .ok (.iconst 1, 1) := by decide +kernel
theorem d218_625 : decode mt218.2.1 625 = .ok (.iadd, 1) := by decide +kernel
theorem d218_626 : decode mt218.2.1 626 = .ok (.iaload, 1) := by decide +kernel
theorem d218_627 : decode mt218.2.1 627 = .ok (.invokevirtual 73, 3) := by decide +kernel
theorem d218_630 : decode mt218.2.1 630 = .ok (.if_icmp .eq 417, 3) := by decide +kernel
theorem d218_633 : decode mt218.2.1 633 = .ok (.iconst 0, 1) := by decide +kernel
theorem d218_634 : decode mt218.2.1 634 = .ok (.ireturn, 1) := by decide +kernel
theorem d218_635 : decode mt218.2.1 635 = .ok (.aload_n 1, 1) := by decide +kernel
theorem d218_636 : decode mt218.2.1 636 = .ok (.aload_n 0, 1) := by decide +kernel
theorem d218_637 : decode mt218.2.1 637 = .ok (.iload_n 3, 1) := by decide +kernel
theorem d218_638 : decode mt218.2.1 638 = .ok (.iconst 1, 1) := by decide +kernel
theorem d218_639 : decode mt218.2.1 639 = .ok (.iadd, 1) := by decide +kernel
theorem d218_640 : decode mt218.2.1 640 = .ok (.iaload, 1) := by decide +kernel
theorem d218_641 : decode mt218.2.1 641 = .ok (.aload_n 0, 1) := by decide +kernel
theorem d218_642 : decode mt218.2.1 642 = .ok (.iload_n 3, 1) := by decide +kernel
theorem d218_643 : decode mt218.2.1 643 = .ok (.iconst 2, 1) := by decide +kernel
theorem d218_644 : decode mt218.2.1 644 = .ok (.iadd, 1) := by decide +kernel
theorem d218_645 : decode mt218.2.1 645 = .ok (.iaload, 1) := by decide +kernel
theorem d218_646 : decode mt218.2.1 646 = .ok (.aload_n 0, 1) := by decide +kernel
theorem d218_647 : decode mt218.2.1 647 = .ok (.iload_n 3, 1) := by decide +kernel
theorem d218_648 : decode mt218.2.1 648 = .ok (.iconst 3, 1) := by decide +kernel
theorem d218_649 : decode mt218.2.1 649 = .ok (.iadd, 1) := by decide +kernel
theorem d218_650 : decode mt218.2.1 650 = .ok (.iaload, 1) := by decide +kernel
theorem d218_651 : decode mt218.2.1 651 = .ok (.invokevirtual 74, 3) := by decide +kernel
theorem d218_654 : decode mt218.2.1 654 = .ok (.aload_n 2, 1) := by decide +kernel
theorem d218_655 : decode mt218.2.1 655 = .ok (.aload_n 0, 1) := by decide +kernel
theorem d218_656 : decode mt218.2.1 656 = .ok (.iload_n 3, 1) := by decide +kernel
theorem d218_657 : decode mt218.2.1 657 = .ok (.iconst 1, 1) := by decide +kernel
theorem d218_658 : decode mt218.2.1 658 = .ok (.iadd, 1) := by decide +kernel
theorem d218_659 : decode mt218.2.1 659 = .ok (.iaload, 1) := by decide +kernel
theorem d218_660 : decode mt218.2.1 660 = .ok (.aload_n 0, 1) := by decide +kernel
theorem d218_661 : decode mt218.2.1 661 = .ok (.iload_n 3, 1) := by decide +kernel
theorem d218_662 : decode mt218.2.1 662 = .ok (.iconst 2, 1) := by decide +kernel
theorem d218_663 : decode mt218.2.1 663 = .ok (.iadd, 1) := by decide +kernel
theorem d218_664 : decode mt218.2.1 664 = .ok (.iaload, 1) := by decide +kernel
theorem d218_665 : decode mt218.2.1 665 = .ok (.aload_n 0, 1) := by decide +kernel
theorem d218_666 : decode mt218.2.1 666 = .ok (.iload_n 3, 1) := by decide +kernel
theorem d218_667 : decode mt218.2.1 667 = .ok (.iconst 3, 1) := by decide +kernel
theorem d218_668 : decode mt218.2.1 668 = .ok (.iadd, 1) := by decide +kernel
theorem d218_669 : decode mt218.2.1 669 = .ok (.iaload, 1) := by decide +kernel
theorem d218_670 : decode mt218.2.1 670 = .ok (.invokevirtual 77, 3) := by decide +kernel
theorem d218_673 : decode mt218.2.1 673 = .ok (.if_icmp .eq 374, 3) := by decide +kernel
theorem d218_676 : decode mt218.2.1 676 = .ok (.iconst 0, 1) := by decide +kernel
theorem d218_677 : decode mt218.2.1 677 = .ok (.ireturn, 1) := by decide +kernel
theorem d218_678 : decode mt218.2.1 678 = .ok (.aload_n 1, 1) := by decide +kernel
theorem d218_679 : decode mt218.2.1 679 = .ok (.aload_n 0, 1) := by decide +kernel
theorem d218_680 : decode mt218.2.1 680 = .ok (.iload_n 3, 1) := by decide +kernel
theorem d218_681 : decode mt218.2.1 681 = .ok (.iconst 1, 1) := by decide +kernel
theorem d218_682 : decode mt218.2.1 682 = .ok (.iadd, 1) := by decide +kernel
theorem d218_683 : decode mt218.2.1 683 = .ok (.iaload, 1) := by decide +kernel
theorem d218_684 : decode mt218.2.1 684 = .ok (.invokevirtual 78, 3) := by decide +kernel
theorem d218_687 : decode mt218.2.1 687 = .ok (.aload_n 2, 1) := by decide +kernel
theorem d218_688 : decode mt218.2.1 688 = .ok (.aload_n 0, 1) := by decide +kernel
theorem d218_689 : decode mt218.2.1 689 = .ok (.iload_n 3, 1) := by decide +kernel
theorem d218_690 : decode mt218.2.1 690 = .ok (.iconst 1, 1) := by decide +kernel
theorem d218_691 : decode mt218.2.1 691 = .ok (.iadd, 1) := by decide +kernel
theorem d218_692 : decode mt218.2.1 692 = .ok (.iaload, 1) := by decide +kernel
theorem d218_693 : decode mt218.2.1 693 = .ok (.invokevirtual 81, 3) := by decide +kernel
theorem d218_696 : decode mt218.2.1 696 = .ok (.if_icmp .eq 351, 3) := by decide +kernel
theorem d218_699 : decode mt218.2.1 699 = .ok (.iconst 0, 1) := by decide +kernel
theorem d218_700 : decode mt218.2.1 700 = .ok (.ireturn, 1) := by decide +kernel
theorem d218_701 : decode mt218.2.1 701 = .ok (.aload_n 1, 1) := by decide +kernel
theorem d218_702 : decode mt218.2.1 702 = .ok (.aload_n 0, 1) := by decide +kernel
theorem d218_703 : decode mt218.2.1 703 = .ok (.iload_n 3, 1) := by decide +kernel
theorem d218_704 : decode mt218.2.1 704 = .ok (.iconst 1, 1) := by decide +kernel
theorem d218_705 : decode mt218.2.1 705 = .ok (.iadd, 1) := by decide +kernel
theorem d218_706 : decode mt218.2.1 706 = .ok (.iaload, 1) := by decide +kernel
theorem d218_707 : decode mt218.2.1 707 = .ok (.invokevirtual 82, 3) := by decide +kernel
theorem d218_710 : decode mt218.2.1 710 = .ok (.aload_n 2, 1) := by decide +kernel
theorem d218_711 : decode mt218.2.1 711 = .ok (.aload_n 0, 1) := by decide +kernel
theorem d218_712 : decode mt218.2.1 712 = .ok (.iload_n 3, 1) := by decide +kernel
theorem d218_713 : decode mt218.2.1 713 = .ok (.iconst 1, 1) := by decide +kernel
theorem d218_714 : decode mt218.2.1 714 = .ok (.iadd, 1) := by decide +kernel
theorem d218_715 : decode mt218.2.1 715 = .ok (.iaload, 1) := by decide +kernel
theorem d218_716 : decode mt218.2.1 716 = .ok (.invokevirtual 85, 3) := by decide +kernel
theorem d218_719 : decode mt218.2.1 719 = .ok (.if_icmp .eq 328, 3) := by decide +kernel
theorem d218_722 : decode mt218.2.1 722 = .ok (.iconst 0, 1) := by decide +kernel
theorem d218_723 : decode mt218.2.1 723 = .ok (.ireturn, 1) := by decide +kernel
theorem d218_724 : decode mt218.2.1 724 = .ok (.aload_n 1, 1) := by decide +kernel
theorem d218_725 : decode mt218.2.1 725 = .ok (.aload_n 0, 1) := by decide +kernel
theorem d218_726 : decode mt218.2.1 726 = .ok (.iload_n 3, 1) := by decide +kernel
theorem d218_727 : decode mt218.2.1 727 = .ok (.iconst 1, 1) := by decide +kernel
theorem d218_728 : decode mt218.2.1 728 = .ok (.iadd, 1) := by decide +kernel
theorem d218_729 : decode mt218.2.1 729 = .ok (.iaload, 1) := by decide +kernel
theorem d218_730 : decode mt218.2.1 730 = .ok (.aload_n 0, 1) := by decide +kernel
theorem d218_731 : decode mt218.2.1 731 = .ok (.iload_n 3, 1) := by decide +kernel
theorem d218_732 : decode mt218.2.1 732 = .ok (.iconst 2, 1) := by decide +kernel
theorem d218_733 : decode mt218.2.1 733 = .ok (.iadd, 1) := by decide +kernel
theorem d218_734 : decode mt218.2.1 734 = .ok (.iaload, 1) := by decide +kernel
theorem d218_735 : decode mt218.2.1 735 = .ok (.aload_n 0, 1) := by decide +kernel
theorem d218_736 : decode mt218.2.1 736 = .ok (.iload_n 3, 1) := by decide +kernel
theorem d218_737 : decode mt218.2.1 737 = .ok (.iconst 3, 1) := by decide +kernel
theorem d218_738 : decode mt218.2.1 738 = .ok (.iadd, 1) := by decide +kernel
theorem d218_739 : decode mt218.2.1 739 = .ok (.iaload, 1) := by decide +kernel
theorem d218_740 : decode mt218.2.1 740 = .ok (.invokevirtual 86, 3) := by decide +kernel
theorem d218_743 : decode mt218.2.1 743 = .ok (.aload_n 2, 1) := by decide +kernel
theorem d218_744 : decode mt218.2.1 744 = .ok (.aload_n 0, 1) := by decide +kernel
theorem d218_745 : decode mt218.2.1 745 = .ok (.iload_n 3, 1) := by decide +kernel
theorem d218_746 : decode mt218.2.1 746 = .ok (.iconst 1, 1) := by decide +kernel
theorem d218_747 : decode mt218.2.1 747 = .ok (.iadd, 1) := by decide +kernel
theorem d218_748 : decode mt218.2.1 748 = .ok (.iaload, 1) := by decide +kernel
theorem d218_749 : decode mt218.2.1 749 = .ok (.aload_n 0, 1) := by decide +kernel
theorem d218_750 : decode mt218.2.1 750 = .ok (.iload_n 3, 1) := by decide +kernel
theorem d218_751 : decode mt218.2.1 751 = .ok (.iconst 2, 1) := by decide +kernel
theorem d218_752 : decode mt218.2.1 752 = .ok (.iadd, 1) := by decide +kernel
theorem d218_753 : decode mt218.2.1 753 = .ok (.iaload, 1) := by decide +kernel
theorem d218_754 : decode mt218.2.1 754 = .ok (.aload_n 0, 1) := by decide +kernel
theorem d218_755 : decode mt218.2.1 755 = .ok (.iload_n 3, 1) := by decide +kernel
theorem d218_756 : decode mt218.2.1 756 = .ok (.iconst 3, 1) := by decide +kernel
theorem d218_757 : decode mt218.2.1 757 = .ok (.iadd, 1) := by decide +kernel
theorem d218_758 : decode mt218.2.1 758 = .ok (.iaload, 1) := by decide +kernel
theorem d218_759 : decode mt218.2.1 759 = .ok (.invokevirtual 89, 3) := by decide +kernel
theorem d218_762 : decode mt218.2.1 762 = .ok (.if_icmp .eq 285, 3) := by decide +kernel
theorem d218_765 : decode mt218.2.1 765 = .ok (.iconst 0, 1) := by decide +kernel
theorem d218_766 : decode mt218.2.1 766 = .ok (.ireturn, 1) := by decide +kernel
theorem d218_767 : decode mt218.2.1 767 = .ok (.aload_n 1, 1) := by decide +kernel
theorem d218_768 : decode mt218.2.1 768 = .ok (.aload_n 0, 1) := by decide +kernel
theorem d218_769 : decode mt218.2.1 769 = .ok (.iload_n 3, 1) := by decide +kernel
theorem d218_770 : decode mt218.2.1 770 = .ok (.iconst 1, 1) := by decide +kernel
theorem d218_771 : decode mt218.2.1 771 = .ok (.iadd, 1) := by decide +kernel
theorem d218_772 : decode mt218.2.1 772 = .ok (.iaload, 1) := by decide +kernel
theorem d218_773 : decode mt218.2.1 773 = .ok (.aload_n 0, 1) := by decide +kernel
theorem d218_774 : decode mt218.2.1 774 = .ok (.iload_n 3, 1) := by decide +kernel
theorem d218_775 : decode mt218.2.1 775 = .ok (.iconst 2, 1) := by decide +kernel
theorem d218_776 : decode mt218.2.1 776 = .ok (.iadd, 1) := by decide +kernel
theorem d218_777 : decode mt218.2.1 777 = .ok (.iaload, 1) := by decide +kernel
theorem d218_778 : decode mt218.2.1 778 = .ok (.invokevirtual 90, 3) := by decide +kernel
theorem d218_781 : decode mt218.2.1 781 = .ok (.aload_n 2, 1) := by decide +kernel
theorem d218_782 : decode mt218.2.1 782 = .ok (.aload_n 0, 1) := by decide +kernel
theorem d218_783 : decode mt218.2.1 783 = .ok (.iload_n 3, 1) := by decide +kernel
theorem d218_784 : decode mt218.2.1 784 = .ok (.iconst 1, 1) := by decide +kernel
theorem d218_785 : decode mt218.2.1 785 = .ok (.iadd, 1) := by decide +kernel
theorem d218_786 : decode mt218.2.1 786 = .ok (.iaload, 1) := by decide +kernel
theorem d218_787 : decode mt218.2.1 787 = .ok (.aload_n 0, 1) := by decide +kernel
theorem d218_788 : decode mt218.2.1 788 = .ok (.iload_n 3, 1) := by decide +kernel
theorem d218_789 : decode mt218.2.1 789 = .ok (.iconst 2, 1) := by decide +kernel
theorem d218_790 : decode mt218.2.1 790 = .ok (.iadd, 1) := by decide +kernel
theorem d218_791 : decode mt218.2.1 791 = .ok (.iaload, 1) := by decide +kernel
theorem d218_792 : decode mt218.2.1 792 = .ok (.invokevirtual 93, 3) := by decide +kernel
theorem d218_795 : decode mt218.2.1 795 = .ok (.if_icmp .eq 252, 3) := by decide +kernel
theorem d218_798 : decode mt218.2.1 798 = .ok (.iconst 0, 1) := by decide +kernel
theorem d218_799 : decode mt218.2.1 799 = .ok (.ireturn, 1) := by decide +kernel
theorem d218_800 : decode mt218.2.1 800 = .ok (.aload_n 1, 1) := by decide +kernel
theorem d218_801 : decode mt218.2.1 801 = .ok (.aload_n 0, 1) := by decide +kernel
theorem d218_802 : decode mt218.2.1 802 = .ok (.iload_n 3, 1) := by decide +kernel
theorem d218_803 : decode mt218.2.1 803 = .ok (.iconst 1, 1) := by decide +kernel
theorem d218_804 : decode mt218.2.1 804 = .ok (.iadd, 1) := by decide +kernel
theorem d218_805 : decode mt218.2.1 805 = .ok (.iaload, 1) := by decide +kernel
theorem d218_806 : decode mt218.2.1 806 = .ok (.aload_n 0, 1) := by decide +kernel
theorem d218_807 : decode mt218.2.1 807 = .ok (.iload_n 3, 1) := by decide +kernel
theorem d218_808 : decode mt218.2.1 808 = .ok (.iconst 2, 1) := by decide +kernel
theorem d218_809 : decode mt218.2.1 809 = .ok (.iadd, 1) := by decide +kernel
theorem d218_810 : decode mt218.2.1 810 = .ok (.iaload, 1) := by decide +kernel
theorem d218_811 : decode mt218.2.1 811 = .ok (.aload_n 0, 1) := by decide +kernel
theorem d218_812 : decode mt218.2.1 812 = .ok (.iload_n 3, 1) := by decide +kernel
theorem d218_813 : decode mt218.2.1 813 = .ok (.iconst 3, 1) := by decide +kernel
theorem d218_814 : decode mt218.2.1 814 = .ok (.iadd, 1) := by decide +kernel
theorem d218_815 : decode mt218.2.1 815 = .ok (.iaload, 1) := by decide +kernel
theorem d218_816 : decode mt218.2.1 816 = .ok (.aload_n 0, 1) := by decide +kernel
theorem d218_817 : decode mt218.2.1 817 = .ok (.iload_n 3, 1) := by decide +kernel
theorem d218_818 : decode mt218.2.1 818 = .ok (.iconst 4, 1) := by decide +kernel
theorem d218_819 : decode mt218.2.1 819 = .ok (.iadd, 1) := by decide +kernel
theorem d218_820 : decode mt218.2.1 820 = .ok (.iaload, 1) := by decide +kernel
theorem d218_821 : decode mt218.2.1 821 = .ok (.invokevirtual 94, 3) := by decide +kernel
theorem d218_824 : decode mt218.2.1 824 = .ok (.aload_n 2, 1) := by decide +kernel
theorem d218_825 : decode mt218.2.1 825 = .ok (.aload_n 0, 1) := by decide +kernel
theorem d218_826 : decode mt218.2.1 826 = .ok (.iload_n 3, 1) := by decide +kernel
theorem d218_827 : decode mt218.2.1 827 = .ok (.iconst 1, 1) := by decide +kernel
theorem d218_828 : decode mt218.2.1 828 = .ok (.iadd, 1) := by decide +kernel
theorem d218_829 : decode mt218.2.1 829 = .ok (.iaload, 1) := by decide +kernel
theorem d218_830 : decode mt218.2.1 830 = .ok (.aload_n 0, 1) := by decide +kernel
theorem d218_831 : decode mt218.2.1 831 = .ok (.iload_n 3, 1) := by decide +kernel
theorem d218_832 : decode mt218.2.1 832 = .ok (.iconst 2, 1) := by decide +kernel
theorem d218_833 : decode mt218.2.1 833 = .ok (.iadd, 1) := by decide +kernel
theorem d218_834 : decode mt218.2.1 834 = .ok (.iaload, 1) := by decide +kernel
theorem d218_835 : decode mt218.2.1 835 = .ok (.aload_n 0, 1) := by decide +kernel
theorem d218_836 : decode mt218.2.1 836 = .ok (.iload_n 3, 1) := by decide +kernel
theorem d218_837 : decode mt218.2.1 837 = .ok (.iconst 3, 1) := by decide +kernel
theorem d218_838 : decode mt218.2.1 838 = .ok (.iadd, 1) := by decide +kernel
theorem d218_839 : decode mt218.2.1 839 = .ok (.iaload, 1) := by decide +kernel
theorem d218_840 : decode mt218.2.1 840 = .ok (.aload_n 0, 1) := by decide +kernel
theorem d218_841 : decode mt218.2.1 841 = .ok (.iload_n 3, 1) := by decide +kernel
theorem d218_842 : decode mt218.2.1 842 = .ok (.iconst 4, 1) := by decide +kernel
theorem d218_843 : decode mt218.2.1 843 = .ok (.iadd, 1) := by decide +kernel
theorem d218_844 : decode mt218.2.1 844 = .ok (.iaload, 1) := by decide +kernel
theorem d218_845 : decode mt218.2.1 845 = .ok (.invokevirtual 97, 3) := by decide +kernel
theorem d218_848 : decode mt218.2.1 848 = .ok (.if_icmp .eq 199, 3) := by decide +kernel
theorem d218_851 : decode mt218.2.1 851 = .ok (.iconst 0, 1) := by decide +kernel
theorem d218_852 : decode mt218.2.1 852 = .ok (.ireturn, 1) := by decide +kernel
theorem d218_853 : decode mt218.2.1 853 = .ok (.aload_n 1, 1) := by decide +kernel
theorem d218_854 : decode mt218.2.1 854 = .ok (.aload_n 0, 1) := by decide +kernel
theorem d218_855 : decode mt218.2.1 855 = .ok (.iload_n 3, 1) := by decide +kernel
theorem d218_856 : decode mt218.2.1 856 = .ok (.iconst 1, 1) := by decide +kernel
theorem d218_857 : decode mt218.2.1 857 = .ok (.iadd, 1) := by decide +kernel
theorem d218_858 : decode mt218.2.1 858 = .ok (.iaload, 1) := by decide +kernel
theorem d218_859 : decode mt218.2.1 859 = .ok (.invokevirtual 98, 3) := by decide +kernel
theorem d218_862 : decode mt218.2.1 862 = .ok (.aload_n 2, 1) := by decide +kernel
theorem d218_863 : decode mt218.2.1 863 = .ok (.aload_n 0, 1) := by decide +kernel
theorem d218_864 : decode mt218.2.1 864 = .ok (.iload_n 3, 1) := by decide +kernel
theorem d218_865 : decode mt218.2.1 865 = .ok (.iconst 1, 1) := by decide +kernel
theorem d218_866 : decode mt218.2.1 866 = .ok (.iadd, 1) := by decide +kernel
theorem d218_867 : decode mt218.2.1 867 = .ok (.iaload, 1) := by decide +kernel
theorem d218_868 : decode mt218.2.1 868 = .ok (.invokevirtual 101, 3) := by decide +kernel
theorem d218_871 : decode mt218.2.1 871 = .ok (.if_icmp .eq 176, 3) := by decide +kernel
theorem d218_874 : decode mt218.2.1 874 = .ok (.iconst 0, 1) := by decide +kernel
theorem d218_875 : decode mt218.2.1 875 = .ok (.ireturn, 1) := by decide +kernel
theorem d218_876 : decode mt218.2.1 876 = .ok (.aload_n 1, 1) := by decide +kernel
theorem d218_877 : decode mt218.2.1 877 = .ok (.aload_n 0, 1) := by decide +kernel
theorem d218_878 : decode mt218.2.1 878 = .ok (.iload_n 3, 1) := by decide +kernel
theorem d218_879 : decode mt218.2.1 879 = .ok (.iconst 1, 1) := by decide +kernel
theorem d218_880 : decode mt218.2.1 880 = .ok (.iadd, 1) := by decide +kernel
theorem d218_881 : decode mt218.2.1 881 = .ok (.iaload, 1) := by decide +kernel
theorem d218_882 : decode mt218.2.1 882 = .ok (.invokevirtual 102, 3) := by decide +kernel
theorem d218_885 : decode mt218.2.1 885 = .ok (.aload_n 2, 1) := by decide +kernel
theorem d218_886 : decode mt218.2.1 886 = .ok (.aload_n 0, 1) := by decide +kernel
theorem d218_887 : decode mt218.2.1 887 = .ok (.iload_n 3, 1) := by decide +kernel
theorem d218_888 : decode mt218.2.1 888 = .ok (.iconst 1, 1) := by decide +kernel
theorem d218_889 : decode mt218.2.1 889 = .ok (.iadd, 1) := by decide +kernel
theorem d218_890 : decode mt218.2.1 890 = .ok (.iaload, 1) := by decide +kernel
theorem d218_891 : decode mt218.2.1 891 = .ok (.invokevirtual 105, 3) := by decide +kernel
theorem d218_894 : decode mt218.2.1 894 = .ok (.if_icmp .eq 153, 3) := by decide +kernel
theorem d218_897 : decode mt218.2.1 897 = .ok (.iconst 0, 1) := by decide +kernel
theorem d218_898 : decode mt218.2.1 898 = .ok (.ireturn, 1) := by decide +kernel
theorem d218_899 : decode mt218.2.1 899 = .ok (.aload_n 1, 1) := by decide +kernel
theorem d218_900 : decode mt218.2.1 900 = .ok (.aload_n 0, 1) := by decide +kernel
theorem d218_901 : decode mt218.2.1 901 = .ok (.iload_n 3, 1) := by decide +kernel
theorem d218_902 : decode mt218.2.1 902 = .ok (.iconst 1, 1) := by decide +kernel
theorem d218_903 : decode mt218.2.1 903 = .ok (.iadd, 1) := by decide +kernel
theorem d218_904 : decode mt218.2.1 904 = .ok (.iaload, 1) := by decide +kernel
theorem d218_905 : decode mt218.2.1 905 = .ok (.invokevirtual 106, 3) := by decide +kernel
theorem d218_908 : decode mt218.2.1 908 = .ok (.aload_n 2, 1) := by decide +kernel
theorem d218_909 : decode mt218.2.1 909 = .ok (.aload_n 0, 1) := by decide +kernel
theorem d218_910 : decode mt218.2.1 910 = .ok (.iload_n 3, 1) := by decide +kernel
theorem d218_911 : decode mt218.2.1 911 = .ok (.iconst 1, 1) := by decide +kernel
theorem d218_912 : decode mt218.2.1 912 = .ok (.iadd, 1) := by decide +kernel
theorem d218_913 : decode mt218.2.1 913 = .ok (.iaload, 1) := by decide +kernel
theorem d218_914 : decode mt218.2.1 914 = .ok (.invokevirtual 109, 3) := by decide +kernel
theorem d218_917 : decode mt218.2.1 917 = .ok (.if_icmp .eq 130, 3) := by decide +kernel
theorem d218_920 : decode mt218.2.1 920 = .ok (.iconst 0, 1) := by decide +kernel
theorem d218_921 : decode mt218.2.1 921 = .ok (.ireturn, 1) := by decide +kernel
theorem d218_922 : decode mt218.2.1 922 = .ok (.aload_n 1, 1) := by decide +kernel
theorem d218_923 : decode mt218.2.1 923 = .ok (.aload_n 0, 1) := by decide +kernel
theorem d218_924 : decode mt218.2.1 924 = .ok (.iload_n 3, 1) := by decide +kernel
theorem d218_925 : decode mt218.2.1 925 = .ok (.iconst 1, 1) := by decide +kernel
theorem d218_926 : decode mt218.2.1 926 = .ok (.iadd, 1) := by decide +kernel
theorem d218_927 : decode mt218.2.1 927 = .ok (.iaload, 1) := by decide +kernel
theorem d218_928 : decode mt218.2.1 928 = .ok (.aload_n 0, 1) := by decide +kernel
theorem d218_929 : decode mt218.2.1 929 = .ok (.iload_n 3, 1) := by decide +kernel
theorem d218_930 : decode mt218.2.1 930 = .ok (.iconst 2, 1) := by decide +kernel
theorem d218_931 : decode mt218.2.1 931 = .ok (.iadd, 1) := by decide +kernel
theorem d218_932 : decode mt218.2.1 932 = .ok (.iaload, 1) := by decide +kernel
theorem d218_933 : decode mt218.2.1 933 = .ok (.invokevirtual 110, 3) := by decide +kernel
theorem d218_936 : decode mt218.2.1 936 = .ok (.aload_n 2, 1) := by decide +kernel
theorem d218_937 : decode mt218.2.1 937 = .ok (.aload_n 0, 1) := by decide +kernel
theorem d218_938 : decode mt218.2.1 938 = .ok (.iload_n 3, 1) := by decide +kernel
theorem d218_939 : decode mt218.2.1 939 = .ok (.iconst 1, 1) := by decide +kernel
theorem d218_940 : decode mt218.2.1 940 = .ok (.iadd, 1) := by decide +kernel
theorem d218_941 : decode mt218.2.1 941 = .ok (.iaload, 1) := by decide +kernel
theorem d218_942 : decode mt218.2.1 942 = .ok (.aload_n 0, 1) := by decide +kernel
theorem d218_943 : decode mt218.2.1 943 = .ok (.iload_n 3, 1) := by decide +kernel
theorem d218_944 : decode mt218.2.1 944 = .ok (.iconst 2, 1) := by decide +kernel
theorem d218_945 : decode mt218.2.1 945 = .ok (.iadd, 1) := by decide +kernel
theorem d218_946 : decode mt218.2.1 946 = .ok (.iaload, 1) := by decide +kernel
theorem d218_947 : decode mt218.2.1 947 = .ok (.invokevirtual 113, 3) := by decide +kernel
theorem d218_950 : decode mt218.2.1 950 = .ok (.if_icmp .eq 97, 3) := by decide +kernel
theorem d218_953 : decode mt218.2.1 953 = .ok (.iconst 0, 1) := by decide +kernel
theorem d218_954 : decode mt218.2.1 954 = .ok (.ireturn, 1) := by decide +kernel
theorem d218_955 : decode mt218.2.1 955 = .ok (.aload_n 1, 1) := by decide +kernel
theorem d218_956 : decode mt218.2.1 956 = .ok (.aload_n 0, 1) := by decide +kernel
theorem d218_957 : decode mt218.2.1 957 = .ok (.iload_n 3, 1) := by decide +kernel
theorem d218_958 : decode mt218.2.1 958 = .ok (.iconst 1, 1) := by decide +kernel
theorem d218_959 : decode mt218.2.1 959 = .ok (.iadd, 1) := by decide +kernel
theorem d218_960 : decode mt218.2.1 960 = .ok (.iaload, 1) := by decide +kernel
theorem d218_961 : decode mt218.2.1 961 = .ok (.aload_n 0, 1) := by decide +kernel
theorem d218_962 : decode mt218.2.1 962 = .ok (.iload_n 3, 1) := by decide +kernel
theorem d218_963 : decode mt218.2.1 963 = .ok (.iconst 2, 1) := by decide +kernel
theorem d218_964 : decode mt218.2.1 964 = .ok (.iadd, 1) := by decide +kernel
theorem d218_965 : decode mt218.2.1 965 = .ok (.iaload, 1) := by decide +kernel
theorem d218_966 : decode mt218.2.1 966 = .ok (.invokevirtual 114, 3) := by decide +kernel
theorem d218_969 : decode mt218.2.1 969 = .ok (.aload_n 2, 1) := by decide +kernel
theorem d218_970 : decode mt218.2.1 970 = .ok (.aload_n 0, 1) := by decide +kernel
theorem d218_971 : decode mt218.2.1 971 = .ok (.iload_n 3, 1) := by decide +kernel
theorem d218_972 : decode mt218.2.1 972 = .ok (.iconst 1, 1) := by decide +kernel
theorem d218_973 : decode mt218.2.1 973 = .ok (.iadd, 1) := by decide +kernel
theorem d218_974 : decode mt218.2.1 974 = .ok (.iaload, 1) := by decide +kernel
theorem d218_975 : decode mt218.2.1 975 = .ok (.aload_n 0, 1) := by decide +kernel
theorem d218_976 : decode mt218.2.1 976 = .ok (.iload_n 3, 1) := by decide +kernel
theorem d218_977 : decode mt218.2.1 977 = .ok (.iconst 2, 1) := by decide +kernel
theorem d218_978 : decode mt218.2.1 978 = .ok (.iadd, 1) := by decide +kernel
theorem d218_979 : decode mt218.2.1 979 = .ok (.iaload, 1) := by decide +kernel
theorem d218_980 : decode mt218.2.1 980 = .ok (.invokevirtual 117, 3) := by decide +kernel
theorem d218_983 : decode mt218.2.1 983 = .ok (.if_icmp .eq 64, 3) := by decide +kernel
theorem d218_986 : decode mt218.2.1 986 = .ok (.iconst 0, 1) := by decide +kernel
theorem d218_987 : decode mt218.2.1 987 = .ok (.ireturn, 1) := by decide +kernel
theorem d218_988 : decode mt218.2.1 988 = .ok (.aload_n 1, 1) := by decide +kernel
theorem d218_989 : decode mt218.2.1 989 = .ok (.aload_n 0, 1) := by decide +kernel
theorem d218_990 : decode mt218.2.1 990 = .ok (.iload_n 3, 1) := by decide +kernel
theorem d218_991 : decode mt218.2.1 991 = .ok (.iconst 1, 1) := by decide +kernel
theorem d218_992 : decode mt218.2.1 992 = .ok (.iadd, 1) := by decide +kernel
theorem d218_993 : decode mt218.2.1 993 = .ok (.iaload, 1) := by decide +kernel
theorem d218_994 : decode mt218.2.1 994 = .ok (.invokevirtual 118, 3) := by decide +kernel
theorem d218_997 : decode mt218.2.1 997 = .ok (.aload_n 2, 1) := by decide +kernel
theorem d218_998 : decode mt218.2.1 998 = .ok (.aload_n 0, 1) := by decide +kernel
theorem d218_999 : decode mt218.2.1 999 = .ok (.iload_n 3, 1) := by decide +kernel
theorem d218_1000 : decode mt218.2.1 1000 = .ok (.iconst 1, 1) := by decide +kernel
theorem d218_1001 : decode mt218.2.1 1001 = .ok (.iadd, 1) := by decide +kernel
theorem d218_1002 : decode mt218.2.1 1002 = .ok (.iaload, 1) := by decide +kernel
theorem d218_1003 : decode mt218.2.1 1003 = .ok (.invokevirtual 121, 3) := by decide +kernel
theorem d218_1006 : decode mt218.2.1 1006 = .ok (.if_icmp .eq 41, 3) := by decide +kernel
theorem d218_1009 : decode mt218.2.1 1009 = .ok (.iconst 0, 1) := by decide +kernel
theorem d218_1010 : decode mt218.2.1 1010 = .ok (.ireturn, 1) := by decide +kernel
theorem d218_1011 : decode mt218.2.1 1011 = .ok (.aload_n 1, 1) := by decide +kernel
theorem d218_1012 : decode mt218.2.1 1012 = .ok (.aload_n 0, 1) := by decide +kernel
theorem d218_1013 : decode mt218.2.1 1013 = .ok (.iload_n 3, 1) := by decide +kernel
theorem d218_1014 : decode mt218.2.1 1014 = .ok (.iconst 1, 1) := by decide +kernel
theorem d218_1015 : decode mt218.2.1 1015 = .ok (.iadd, 1) := by decide +kernel
theorem d218_1016 : decode mt218.2.1 1016 = .ok (.iaload, 1) := by decide +kernel
theorem d218_1017 : decode mt218.2.1 1017 = .ok (.invokevirtual 122, 3) := by decide +kernel
theorem d218_1020 : decode mt218.2.1 1020 = .ok (.aload_n 2, 1) := by decide +kernel
theorem d218_1021 : decode mt218.2.1 1021 = .ok (.aload_n 0, 1) := by decide +kernel
theorem d218_1022 : decode mt218.2.1 1022 = .ok (.iload_n 3, 1) := by decide +kernel
theorem d218_1023 : decode mt218.2.1 1023 = .ok (.iconst 1, 1) := by decide +kernel
theorem d218_1024 : decode mt218.2.1 1024 = .ok (.iadd, 1) := by decide +kernel
theorem d218_1025 : decode mt218.2.1 1025 = .ok (.iaload, 1) := by decide +kernel
theorem d218_1026 : decode mt218.2.1 1026 = .ok (.invokevirtual 125, 3) := by decide +kernel
theorem d218_1029 : decode mt218.2.1 1029 = .ok (.if_icmp .eq 18, 3) := by decide +kernel
theorem d218_1032 : decode mt218.2.1 1032 = .ok (.iconst 0, 1) := by decide +kernel
theorem d218_1033 : decode mt218.2.1 1033 = .ok (.ireturn, 1) := by decide +kernel
theorem d218_1034 : decode mt218.2.1 1034 = .ok (.aload_n 1, 1) := by decide +kernel
theorem d218_1035 : decode mt218.2.1 1035 = .ok (.invokevirtual 126, 3) := by decide +kernel
theorem d218_1038 : decode mt218.2.1 1038 = .ok (.aload_n 2, 1) := by decide +kernel
theorem d218_1039 : decode mt218.2.1 1039 = .ok (.invokevirtual 129, 3) := by decide +kernel
theorem d218_1042 : decode mt218.2.1 1042 = .ok (.if_icmp .eq 5, 3) := by decide +kernel
theorem d218_1045 : decode mt218.2.1 1045 = .ok (.iconst 0, 1) := by decide +kernel
theorem d218_1046 : decode mt218.2.1 1046 = .ok (.ireturn, 1) := by decide +kernel
theorem d218_1047 : decode mt218.2.1 1047 = .ok (.iinc 3 6, 3) := by decide +kernel
theorem d218_1050 : decode mt218.2.1 1050 = .ok (.goto (-1032), 3) := by decide +kernel
theorem d218_1053 : decode mt218.2.1 1053 = .ok (.iconst 1, 1) := by decide +kernel
theorem d218_1054 : decode mt218.2.1 1054 = .ok (.ireturn, 1) := by decide +kernel
noncomputable def pg218_0 : List (Nat × aP) := [(0, oNew 10 12 3),
  (3, oDup 4),
  (4, oCalV (fun ci => if ci < 100 then some 81 else none) 0 7),
  (7, oStA 1 8),
  (8, oNew 11 37 11),
  (11, oDup 12),
  (12, oCalV (fun ci => if ci < 100 then some 130 else none) 0 15),
  (15, oStA 2 16),
  (16, oPush (.int 0) 17),
  (17, oStI 3 18),
  (18, oLdI 3 19),
  (19, oLdA 0 20),
  (20, oLen 21),
  (21, oPush (.int 6) 23),
  (23, oII (fun x y => x - y) 24),
  (24, oIc (fun x y => y < x) 1053 27),
  (27, oLdA 0 28),
  (28, oLdI 3 29),
  (29, oALdI 30),
  (30, oPush (.int 31) 32),
  (32, oII (fun x y => x &&& y) 33),
  (33, oSw 0 26 [156, 199, 242, 305, 328, 391, 404, 417, 450, 503, 556, 579, 612, 635, 678, 701, 724, 767, 800, 853, 876, 899, 922, 955, 988, 1011, 1034] 1047),
  (156, oLdA 1 157),
  (157, oLdA 0 158),
  (158, oLdI 3 159),
  (159, oPush (.int 1) 160),
  (160, oII (fun x y => x + y) 161),
  (161, oALdI 162),
  (162, oLdA 0 163),
  (163, oLdI 3 164),
  (164, oPush (.int 2) 165),
  (165, oII (fun x y => x + y) 166),
  (166, oALdI 167),
  (167, oLdA 0 168),
  (168, oLdI 3 169),
  (169, oPush (.int 3) 170),
  (170, oII (fun x y => x + y) 171),
  (171, oALdI 172),
  (172, oCalV (fun k => if k = 10 then some 82 else none) 3 175),
  (175, oLdA 2 176)]
theorem ok218_0 : ∀ q ∈ pg218_0, Sim mT mt218 q.1 q.2 ∧ Grow q.2 :=
  List.forall_mem_cons.mpr ⟨⟨sim_new d218_0 kw20 okC10 nwC10, gr_New 10 12 3⟩,
  List.forall_mem_cons.mpr ⟨⟨sim_dup d218_3, gr_Dup 4⟩,
  List.forall_mem_cons.mpr ⟨⟨sim_special (y := 81) d218_4 (Or.inl kw22) kw23 rfl rfl mo81, gr_CalV (fun ci => if ci < 100 then some 81 else none) 0 7⟩,
  List.forall_mem_cons.mpr ⟨⟨sim_astore_n d218_7 rfl (by decide), gr_StA 1 8⟩,
  List.forall_mem_cons.mpr ⟨⟨sim_new d218_8 kw911 okC11 nwC11, gr_New 11 37 11⟩,
  List.forall_mem_cons.mpr ⟨⟨sim_dup d218_11, gr_Dup 12⟩,
  List.forall_mem_cons.mpr ⟨⟨sim_special (y := 130) d218_12 (Or.inl kw913) kw914 rfl rfl mo130, gr_CalV (fun ci => if ci < 100 then some 130 else none) 0 15⟩,
  List.forall_mem_cons.mpr ⟨⟨sim_astore_n d218_15 rfl (by decide), gr_StA 2 16⟩,
  List.forall_mem_cons.mpr ⟨⟨sim_iconst d218_16 (by decide), gr_Push (.int 0) 17⟩,
  List.forall_mem_cons.mpr ⟨⟨sim_istore_n d218_17 rfl (by decide), gr_StI 3 18⟩,
  List.forall_mem_cons.mpr ⟨⟨sim_iload_n d218_18 rfl, gr_LdI 3 19⟩,
  List.forall_mem_cons.mpr ⟨⟨sim_aload_n d218_19 rfl, gr_LdA 0 20⟩,
  List.forall_mem_cons.mpr ⟨⟨sim_arraylength d218_20, gr_Len 21⟩,
  List.forall_mem_cons.mpr ⟨⟨sim_bipush d218_21 (by decide), gr_Push (.int 6) 23⟩,
  List.forall_mem_cons.mpr ⟨⟨sim_isub d218_23, gr_II (fun x y => x - y) 24⟩,
  List.forall_mem_cons.mpr ⟨⟨sim_icmp_gt d218_24 (by decide), gr_Ic (fun x y => y < x) 1053 27⟩,
  List.forall_mem_cons.mpr ⟨⟨sim_aload_n d218_27 rfl, gr_LdA 0 28⟩,
  List.forall_mem_cons.mpr ⟨⟨sim_iload_n d218_28 rfl, gr_LdI 3 29⟩,
  List.forall_mem_cons.mpr ⟨⟨sim_iaload d218_29, gr_ALdI 30⟩,
  List.forall_mem_cons.mpr ⟨⟨sim_bipush d218_30 (by decide), gr_Push (.int 31) 32⟩,
  List.forall_mem_cons.mpr ⟨⟨sim_iand d218_32, gr_II (fun x y => x &&& y) 33⟩,
  List.forall_mem_cons.mpr ⟨⟨sim_tsw d218_33 (by decide) (tsw_ok (by decide +kernel)), gr_Sw 0 26 [156, 199, 242, 305, 328, 391, 404, 417, 450, 503, 556, 579, 612, 635, 678, 701, 724, 767, 800, 853, 876, 899, 922, 955, 988, 1011, 1034] 1047⟩,
  List.forall_mem_cons.mpr ⟨⟨sim_aload_n d218_156 rfl, gr_LdA 1 157⟩,
  List.forall_mem_cons.mpr ⟨⟨sim_aload_n d218_157 rfl, gr_LdA 0 158⟩,
  List.forall_mem_cons.mpr ⟨⟨sim_iload_n d218_158 rfl, gr_LdI 3 159⟩,
  List.forall_mem_cons.mpr ⟨⟨sim_iconst d218_159 (by decide), gr_Push (.int 1) 160⟩,
  List.forall_mem_cons.mpr ⟨⟨sim_iadd d218_160, gr_II (fun x y => x + y) 161⟩,
  List.forall_mem_cons.mpr ⟨⟨sim_iaload d218_161, gr_ALdI 162⟩,
  List.forall_mem_cons.mpr ⟨⟨sim_aload_n d218_162 rfl, gr_LdA 0 163⟩,
  List.forall_mem_cons.mpr ⟨⟨sim_iload_n d218_163 rfl, gr_LdI 3 164⟩,
  List.forall_mem_cons.mpr ⟨⟨sim_iconst d218_164 (by decide), gr_Push (.int 2) 165⟩,
  List.forall_mem_cons.mpr ⟨⟨sim_iadd d218_165, gr_II (fun x y => x + y) 166⟩,
  List.forall_mem_cons.mpr ⟨⟨sim_iaload d218_166, gr_ALdI 167⟩,
  List.forall_mem_cons.mpr ⟨⟨sim_aload_n d218_167 rfl, gr_LdA 0 168⟩,
  List.forall_mem_cons.mpr ⟨⟨sim_iload_n d218_168 rfl, gr_LdI 3 169⟩,
  List.forall_mem_cons.mpr ⟨⟨sim_iconst d218_169 (by decide), gr_Push (.int 3) 170⟩,
  List.forall_mem_cons.mpr ⟨⟨sim_iadd d218_170, gr_II (fun x y => x + y) 171⟩,
  List.forall_mem_cons.mpr ⟨⟨sim_iaload d218_171, gr_ALdI 172⟩,
  List.forall_mem_cons.mpr ⟨⟨sim_virtual d218_172 vk143, gr_CalV (fun k => if k = 10 then some 82 else none) 3 175⟩,
  List.forall_mem_cons.mpr ⟨⟨sim_aload_n d218_175 rfl, gr_LdA 2 176⟩, fun _ h => absurd h List.not_mem_nil⟩⟩⟩⟩⟩⟩⟩⟩⟩⟩⟩⟩⟩⟩⟩⟩⟩⟩⟩⟩⟩⟩⟩⟩⟩⟩⟩⟩⟩⟩⟩⟩⟩⟩⟩⟩⟩⟩⟩⟩
noncomputable def pg218_1 : List (Nat × aP) := [(176, oLdA 0 177),
  (177, oLdI 3 178),
  (178, oPush (.int 1) 179),
  (179, oII (fun x y => x + y) 180),
  (180, oALdI 181),
  (181, oLdA 0 182),
  (182, oLdI 3 183),
  (183, oPush (.int 2) 184),
  (184, oII (fun x y => x + y) 185),
  (185, oALdI 186),
  (186, oLdA 0 187),
  (187, oLdI 3 188),
  (188, oPush (.int 3) 189),
  (189, oII (fun x y => x + y) 190),
  (190, oALdI 191),
  (191, oCalV (fun k => if k = 11 then some 134 else none) 3 194),
  (194, oIc (fun x y => x = y) 1047 197),
  (197, oPush (.int 0) 198),
  (198, oRetN .boolean),
  (199, oLdA 1 200),
  (200, oLdA 0 201),
  (201, oLdI 3 202),
  (202, oPush (.int 1) 203),
  (203, oII (fun x y => x + y) 204),
  (204, oALdI 205),
  (205, oLdA 0 206),
  (206, oLdI 3 207),
  (207, oPush (.int 2) 208),
  (208, oII (fun x y => x + y) 209),
  (209, oALdI 210),
  (210, oLdA 0 211),
  (211, oLdI 3 212),
  (212, oPush (.int 3) 213),
  (213, oII (fun x y => x + y) 214),
  (214, oALdI 215),
  (215, oCalV (fun k => if k = 10 then some 83 else none) 3 218),
  (218, oLdA 2 219),
  (219, oLdA 0 220),
  (220, oLdI 3 221),
  (221, oPush (.int 1) 222)]
theorem ok218_1 : ∀ q ∈ pg218_1, Sim mT mt218 q.1 q.2 ∧ Grow q.2 :=
  List.forall_mem_cons.mpr ⟨⟨sim_aload_n d218_176 rfl, gr_LdA 0 177⟩,
  List.forall_mem_cons.mpr ⟨⟨sim_iload_n d218_177 rfl, gr_LdI 3 178⟩,
  List.forall_mem_cons.mpr ⟨⟨sim_iconst d218_178 (by decide), gr_Push (.int 1) 179⟩,
  List.forall_mem_cons.mpr ⟨⟨sim_iadd d218_179, gr_II (fun x y => x + y) 180⟩,
  List.forall_mem_cons.mpr ⟨⟨sim_iaload d218_180, gr_ALdI 181⟩,
  List.forall_mem_cons.mpr ⟨⟨sim_aload_n d218_181 rfl, gr_LdA 0 182⟩,
  List.forall_mem_cons.mpr ⟨⟨sim_iload_n d218_182 rfl, gr_LdI 3 183⟩,
  List.forall_mem_cons.mpr ⟨⟨sim_iconst d218_183 (by decide), gr_Push (.int 2) 184⟩,
  List.forall_mem_cons.mpr ⟨⟨sim_iadd d218_184, gr_II (fun x y => x + y) 185⟩,
  List.forall_mem_cons.mpr ⟨⟨sim_iaload d218_185, gr_ALdI 186⟩,
  List.forall_mem_cons.mpr ⟨⟨sim_aload_n d218_186 rfl, gr_LdA 0 187⟩,
  List.forall_mem_cons.mpr ⟨⟨sim_iload_n d218_187 rfl, gr_LdI 3 188⟩,
  List.forall_mem_cons.mpr ⟨⟨sim_iconst d218_188 (by decide), gr_Push (.int 3) 189⟩,
  List.forall_mem_cons.mpr ⟨⟨sim_iadd d218_189, gr_II (fun x y => x + y) 190⟩,
  List.forall_mem_cons.mpr ⟨⟨sim_iaload d218_190, gr_ALdI 191⟩,
  List.forall_mem_cons.mpr ⟨⟨sim_virtual d218_191 vk144, gr_CalV (fun k => if k = 11 then some 134 else none) 3 194⟩,
  List.forall_mem_cons.mpr ⟨⟨sim_icmp_eq d218_194 (by decide), gr_Ic (fun x y => x = y) 1047 197⟩,
  List.forall_mem_cons.mpr ⟨⟨sim_iconst d218_197 (by decide), gr_Push (.int 0) 198⟩,
  List.forall_mem_cons.mpr ⟨⟨sim_nreturn d218_198 rfl (fun _ h => congrArg Value.int h), gr_RetN .boolean⟩,
  List.forall_mem_cons.mpr ⟨⟨sim_aload_n d218_199 rfl, gr_LdA 1 200⟩,
  List.forall_mem_cons.mpr ⟨⟨sim_aload_n d218_200 rfl, gr_LdA 0 201⟩,
  List.forall_mem_cons.mpr ⟨⟨sim_iload_n d218_201 rfl, gr_LdI 3 202⟩,
  List.forall_mem_cons.mpr ⟨⟨sim_iconst d218_202 (by decide), gr_Push (.int 1) 203⟩,
  List.forall_mem_cons.mpr ⟨⟨sim_iadd d218_203, gr_II (fun x y => x + y) 204⟩,
  List.forall_mem_cons.mpr ⟨⟨sim_iaload d218_204, gr_ALdI 205⟩,
  List.forall_mem_cons.mpr ⟨⟨sim_aload_n d218_205 rfl, gr_LdA 0 206⟩,
  List.forall_mem_cons.mpr ⟨⟨sim_iload_n d218_206 rfl, gr_LdI 3 207⟩,
  List.forall_mem_cons.mpr ⟨⟨sim_iconst d218_207 (by decide), gr_Push (.int 2) 208⟩,
  List.forall_mem_cons.mpr ⟨⟨sim_iadd d218_208, gr_II (fun x y => x + y) 209⟩,
  List.forall_mem_cons.mpr ⟨⟨sim_iaload d218_209, gr_ALdI 210⟩,
  List.forall_mem_cons.mpr ⟨⟨sim_aload_n d218_210 rfl, gr_LdA 0 211⟩,
  List.forall_mem_cons.mpr ⟨⟨sim_iload_n d218_211 rfl, gr_LdI 3 212⟩,
  List.forall_mem_cons.mpr ⟨⟨sim_iconst d218_212 (by decide), gr_Push (.int 3) 213⟩,
  List.forall_mem_cons.mpr ⟨⟨sim_iadd d218_213, gr_II (fun x y => x + y) 214⟩,
  List.forall_mem_cons.mpr ⟨⟨sim_iaload d218_214, gr_ALdI 215⟩,
  List.forall_mem_cons.mpr ⟨⟨sim_virtual d218_215 vk145, gr_CalV (fun k => if k = 10 then some 83 else none) 3 218⟩,
  List.forall_mem_cons.mpr ⟨⟨sim_aload_n d218_218 rfl, gr_LdA 2 219⟩,
  List.forall_mem_cons.mpr ⟨⟨sim_aload_n d218_219 rfl, gr_LdA 0 220⟩,
  List.forall_mem_cons.mpr ⟨⟨sim_iload_n d218_220 rfl, gr_LdI 3 221⟩,
  List.forall_mem_cons.mpr ⟨⟨sim_iconst d218_221 (by decide), gr_Push (.int 1) 222⟩, fun _ h => absurd h List.not_mem_nil⟩⟩⟩⟩⟩⟩⟩⟩⟩⟩⟩⟩⟩⟩⟩⟩⟩⟩⟩⟩⟩⟩⟩⟩⟩⟩⟩⟩⟩⟩⟩⟩⟩⟩⟩⟩⟩⟩⟩⟩
noncomputable def pg218_2 : List (Nat × aP) := [(222, oII (fun x y => x + y) 223),
  (223, oALdI 224),
  (224, oLdA 0 225),
  (225, oLdI 3 226),
  (226, oPush (.int 2) 227),
  (227, oII (fun x y => x + y) 228),
  (228, oALdI 229),
  (229, oLdA 0 230),
  (230, oLdI 3 231),
  (231, oPush (.int 3) 232),
  (232, oII (fun x y => x + y) 233),
  (233, oALdI 234),
  (234, oCalV (fun k => if k = 11 then some 135 else none) 3 237),
  (237, oIc (fun x y => x = y) 1047 240),
  (240, oPush (.int 0) 241),
  (241, oRetN .boolean),
  (242, oLdA 1 243),
  (243, oLdA 0 244),
  (244, oLdI 3 245),
  (245, oPush (.int 1) 246),
  (246, oII (fun x y => x + y) 247),
  (247, oALdI 248),
  (248, oLdA 0 249),
  (249, oLdI 3 250),
  (250, oPush (.int 2) 251),
  (251, oII (fun x y => x + y) 252),
  (252, oALdI 253),
  (253, oLdA 0 254),
  (254, oLdI 3 255),
  (255, oPush (.int 3) 256),
  (256, oII (fun x y => x + y) 257),
  (257, oALdI 258),
  (258, oLdA 0 259),
  (259, oLdI 3 260),
  (260, oPush (.int 4) 261),
  (261, oII (fun x y => x + y) 262),
  (262, oALdI 263),
  (263, oLdA 0 264),
  (264, oLdI 3 265),
  (265, oPush (.int 5) 266)]
theorem ok218_2 : ∀ q ∈ pg218_2, Sim mT mt218 q.1 q.2 ∧ Grow q.2 :=
  List.forall_mem_cons.mpr ⟨⟨sim_iadd d218_222, gr_II (fun x y => x + y) 223⟩,
  List.forall_mem_cons.mpr ⟨⟨sim_iaload d218_223, gr_ALdI 224⟩,
  List.forall_mem_cons.mpr ⟨⟨sim_aload_n d218_224 rfl, gr_LdA 0 225⟩,
  List.forall_mem_cons.mpr ⟨⟨sim_iload_n d218_225 rfl, gr_LdI 3 226⟩,
  List.forall_mem_cons.mpr ⟨⟨sim_iconst d218_226 (by decide), gr_Push (.int 2) 227⟩,
  List.forall_mem_cons.mpr ⟨⟨sim_iadd d218_227, gr_II (fun x y => x + y) 228⟩,
  List.forall_mem_cons.mpr ⟨⟨sim_iaload d218_228, gr_ALdI 229⟩,
  List.forall_mem_cons.mpr ⟨⟨sim_aload_n d218_229 rfl, gr_LdA 0 230⟩,
  List.forall_mem_cons.mpr ⟨⟨sim_iload_n d218_230 rfl, gr_LdI 3 231⟩,
  List.forall_mem_cons.mpr ⟨⟨sim_iconst d218_231 (by decide), gr_Push (.int 3) 232⟩,
  List.forall_mem_cons.mpr ⟨⟨sim_iadd d218_232, gr_II (fun x y => x + y) 233⟩,
  List.forall_mem_cons.mpr ⟨⟨sim_iaload d218_233, gr_ALdI 234⟩,
  List.forall_mem_cons.mpr ⟨⟨sim_virtual d218_234 vk146, gr_CalV (fun k => if k = 11 then some 135 else none) 3 237⟩,
  List.forall_mem_cons.mpr ⟨⟨sim_icmp_eq d218_237 (by decide), gr_Ic (fun x y => x = y) 1047 240⟩,
  List.forall_mem_cons.mpr ⟨⟨sim_iconst d218_240 (by decide), gr_Push (.int 0) 241⟩,
  List.forall_mem_cons.mpr ⟨⟨sim_nreturn d218_241 rfl (fun _ h => congrArg Value.int h), gr_RetN .boolean⟩,
  List.forall_mem_cons.mpr ⟨⟨sim_aload_n d218_242 rfl, gr_LdA 1 243⟩,
  List.forall_mem_cons.mpr ⟨⟨sim_aload_n d218_243 rfl, gr_LdA 0 244⟩,
  List.forall_mem_cons.mpr ⟨⟨sim_iload_n d218_244 rfl, gr_LdI 3 245⟩,
  List.forall_mem_cons.mpr ⟨⟨sim_iconst d218_245 (by decide), gr_Push (.int 1) 246⟩,
  List.forall_mem_cons.mpr ⟨⟨sim_iadd d218_246, gr_II (fun x y => x + y) 247⟩,
  List.forall_mem_cons.mpr ⟨⟨sim_iaload d218_247, gr_ALdI 248⟩,
  List.forall_mem_cons.mpr ⟨⟨sim_aload_n d218_248 rfl, gr_LdA 0 249⟩,
  List.forall_mem_cons.mpr ⟨⟨sim_iload_n d218_249 rfl, gr_LdI 3 250⟩,
  List.forall_mem_cons.mpr ⟨⟨sim_iconst d218_250 (by decide), gr_Push (.int 2) 251⟩,
  List.forall_mem_cons.mpr ⟨⟨sim_iadd d218_251, gr_II (fun x y => x + y) 252⟩,
  List.forall_mem_cons.mpr ⟨⟨sim_iaload d218_252, gr_ALdI 253⟩,
  List.forall_mem_cons.mpr ⟨⟨sim_aload_n d218_253 rfl, gr_LdA 0 254⟩,
  List.forall_mem_cons.mpr ⟨⟨sim_iload_n d218_254 rfl, gr_LdI 3 255⟩,
  List.forall_mem_cons.mpr ⟨⟨sim_iconst d218_255 (by decide), gr_Push (.int 3) 256⟩,
  List.forall_mem_cons.mpr ⟨⟨sim_iadd d218_256, gr_II (fun x y => x + y) 257⟩,
  List.forall_mem_cons.mpr ⟨⟨sim_iaload d218_257, gr_ALdI 258⟩,
  List.forall_mem_cons.mpr ⟨⟨sim_aload_n d218_258 rfl, gr_LdA 0 259⟩,
  List.forall_mem_cons.mpr ⟨⟨sim_iload_n d218_259 rfl, gr_LdI 3 260⟩,
  List.forall_mem_cons.mpr ⟨⟨sim_iconst d218_260 (by decide), gr_Push (.int 4) 261⟩,
  List.forall_mem_cons.mpr ⟨⟨sim_iadd d218_261, gr_II (fun x y => x + y) 262⟩,
  List.forall_mem_cons.mpr ⟨⟨sim_iaload d218_262, gr_ALdI 263⟩,
  List.forall_mem_cons.mpr ⟨⟨sim_aload_n d218_263 rfl, gr_LdA 0 264⟩,
  List.forall_mem_cons.mpr ⟨⟨sim_iload_n d218_264 rfl, gr_LdI 3 265⟩,
  List.forall_mem_cons.mpr ⟨⟨sim_iconst d218_265 (by decide), gr_Push (.int 5) 266⟩, fun _ h => absurd h List.not_mem_nil⟩⟩⟩⟩⟩⟩⟩⟩⟩⟩⟩⟩⟩⟩⟩⟩⟩⟩⟩⟩⟩⟩⟩⟩⟩⟩⟩⟩⟩⟩⟩⟩⟩⟩⟩⟩⟩⟩⟩⟩
noncomputable def pg218_3 : List (Nat × aP) := [(266, oII (fun x y => x + y) 267),
  (267, oALdI 268),
  (268, oCalV (fun k => if k = 10 then some 84 else none) 5 271),
  (271, oLdA 2 272),
  (272, oLdA 0 273),
  (273, oLdI 3 274),
  (274, oPush (.int 1) 275),
  (275, oII (fun x y => x + y) 276),
  (276, oALdI 277),
  (277, oLdA 0 278),
  (278, oLdI 3 279),
  (279, oPush (.int 2) 280),
  (280, oII (fun x y => x + y) 281),
  (281, oALdI 282),
  (282, oLdA 0 283),
  (283, oLdI 3 284),
  (284, oPush (.int 3) 285),
  (285, oII (fun x y => x + y) 286),
  (286, oALdI 287),
  (287, oLdA 0 288),
  (288, oLdI 3 289),
  (289, oPush (.int 4) 290),
  (290, oII (fun x y => x + y) 291),
  (291, oALdI 292),
  (292, oLdA 0 293),
  (293, oLdI 3 294),
  (294, oPush (.int 5) 295),
  (295, oII (fun x y => x + y) 296),
  (296, oALdI 297),
  (297, oCalV (fun k => if k = 11 then some 136 else none) 5 300),
  (300, oIc (fun x y => x = y) 1047 303),
  (303, oPush (.int 0) 304),
  (304, oRetN .boolean),
  (305, oLdA 1 306),
  (306, oLdA 0 307),
  (307, oLdI 3 308),
  (308, oPush (.int 1) 309),
  (309, oII (fun x y => x + y) 310),
  (310, oALdI 311),
  (311, oCalV (fun k => if k = 10 then some 85 else none) 1 314)]
theorem ok218_3 : ∀ q ∈ pg218_3, Sim mT mt218 q.1 q.2 ∧ Grow q.2 :=
  List.forall_mem_cons.mpr ⟨⟨sim_iadd d218_266, gr_II (fun x y => x + y) 267⟩,
  List.forall_mem_cons.mpr ⟨⟨sim_iaload d218_267, gr_ALdI 268⟩,
  List.forall_mem_cons.mpr ⟨⟨sim_virtual d218_268 vk147, gr_CalV (fun k => if k = 10 then some 84 else none) 5 271⟩,
  List.forall_mem_cons.mpr ⟨⟨sim_aload_n d218_271 rfl, gr_LdA 2 272⟩,
  List.forall_mem_cons.mpr ⟨⟨sim_aload_n d218_272 rfl, gr_LdA 0 273⟩,
  List.forall_mem_cons.mpr ⟨⟨sim_iload_n d218_273 rfl, gr_LdI 3 274⟩,
  List.forall_mem_cons.mpr ⟨⟨sim_iconst d218_274 (by decide), gr_Push (.int 1) 275⟩,
  List.forall_mem_cons.mpr ⟨⟨sim_iadd d218_275, gr_II (fun x y => x + y) 276⟩,
  List.forall_mem_cons.mpr ⟨⟨sim_iaload d218_276, gr_ALdI 277⟩,
  List.forall_mem_cons.mpr ⟨⟨sim_aload_n d218_277 rfl, gr_LdA 0 278⟩,
  List.forall_mem_cons.mpr ⟨⟨sim_iload_n d218_278 rfl, gr_LdI 3 279⟩,
  List.forall_mem_cons.mpr ⟨⟨sim_iconst d218_279 (by decide), gr_Push (.int 2) 280⟩,
  List.forall_mem_cons.mpr ⟨⟨sim_iadd d218_280, gr_II (fun x y => x + y) 281⟩,
  List.forall_mem_cons.mpr ⟨⟨sim_iaload d218_281, gr_ALdI 282⟩,
  List.forall_mem_cons.mpr ⟨⟨sim_aload_n d218_282 rfl, gr_LdA 0 283⟩,
  List.forall_mem_cons.mpr ⟨⟨sim_iload_n d218_283 rfl, gr_LdI 3 284⟩,
  List.forall_mem_cons.mpr ⟨⟨sim_iconst d218_284 (by decide), gr_Push (.int 3) 285⟩,
  List.forall_mem_cons.mpr ⟨⟨sim_iadd d218_285, gr_II (fun x y => x + y) 286⟩,
  List.forall_mem_cons.mpr ⟨⟨sim_iaload d218_286, gr_ALdI 287⟩,
  List.forall_mem_cons.mpr ⟨⟨sim_aload_n d218_287 rfl, gr_LdA 0 288⟩,
  List.forall_mem_cons.mpr ⟨⟨sim_iload_n d218_288 rfl, gr_LdI 3 289⟩,
  List.forall_mem_cons.mpr ⟨⟨sim_iconst d218_289 (by decide), gr_Push (.int 4) 290⟩,
  List.forall_mem_cons.mpr ⟨⟨sim_iadd d218_290, gr_II (fun x y => x + y) 291⟩,
  List.forall_mem_cons.mpr ⟨⟨sim_iaload d218_291, gr_ALdI 292⟩,
  List.forall_mem_cons.mpr ⟨⟨sim_aload_n d218_292 rfl, gr_LdA 0 293⟩,
  List.forall_mem_cons.mpr ⟨⟨sim_iload_n d218_293 rfl, gr_LdI 3 294⟩,
  List.forall_mem_cons.mpr ⟨⟨sim_iconst d218_294 (by decide), gr_Push (.int 5) 295⟩,
  List.forall_mem_cons.mpr ⟨⟨sim_iadd d218_295, gr_II (fun x y => x + y) 296⟩,
  List.forall_mem_cons.mpr ⟨⟨sim_iaload d218_296, gr_ALdI 297⟩,
  List.forall_mem_cons.mpr ⟨⟨sim_virtual d218_297 vk148, gr_CalV (fun k => if k = 11 then some 136 else none) 5 300⟩,
  List.forall_mem_cons.mpr ⟨⟨sim_icmp_eq d218_300 (by decide), gr_Ic (fun x y => x = y) 1047 303⟩,
  List.forall_mem_cons.mpr ⟨⟨sim_iconst d218_303 (by decide), gr_Push (.int 0) 304⟩,
  List.forall_mem_cons.mpr ⟨⟨sim_nreturn d218_304 rfl (fun _ h => congrArg Value.int h), gr_RetN .boolean⟩,
  List.forall_mem_cons.mpr ⟨⟨sim_aload_n d218_305 rfl, gr_LdA 1 306⟩,
  List.forall_mem_cons.mpr ⟨⟨sim_aload_n d218_306 rfl, gr_LdA 0 307⟩,
  List.forall_mem_cons.mpr ⟨⟨sim_iload_n d218_307 rfl, gr_LdI 3 308⟩,
  List.forall_mem_cons.mpr ⟨⟨sim_iconst d218_308 (by decide), gr_Push (.int 1) 309⟩,
  List.forall_mem_cons.mpr ⟨⟨sim_iadd d218_309, gr_II (fun x y => x + y) 310⟩,
  List.forall_mem_cons.mpr ⟨⟨sim_iaload d218_310, gr_ALdI 311⟩,
  List.forall_mem_cons.mpr ⟨⟨sim_virtual d218_311 vk149, gr_CalV (fun k => if k = 10 then some 85 else none) 1 314⟩, fun _ h => absurd h List.not_mem_nil⟩⟩⟩⟩⟩⟩⟩⟩⟩⟩⟩⟩⟩⟩⟩⟩⟩⟩⟩⟩⟩⟩⟩⟩⟩⟩⟩⟩⟩⟩⟩⟩⟩⟩⟩⟩⟩⟩⟩⟩
noncomputable def pg218_4 : List (Nat × aP) := [(314, oLdA 2 315),
  (315, oLdA 0 316),
  (316, oLdI 3 317),
  (317, oPush (.int 1) 318),
  (318, oII (fun x y => x + y) 319),
  (319, oALdI 320),
  (320, oCalV (fun k => if k = 11 then some 137 else none) 1 323),
  (323, oIc (fun x y => x = y) 1047 326),
  (326, oPush (.int 0) 327),
  (327, oRetN .boolean),
  (328, oLdA 1 329),
  (329, oLdA 0 330),
  (330, oLdI 3 331),
  (331, oPush (.int 1) 332),
  (332, oII (fun x y => x + y) 333),
  (333, oALdI 334),
  (334, oIL (fun x => x.toInt64) 335),
  (335, oPush (.int 32) 337),
  (337, oLSh (fun x y => x <<< (y.toInt64 &&& 63)) 338),
  (338, oLdA 0 339),
  (339, oLdI 3 340),
  (340, oPush (.int 2) 341),
  (341, oII (fun x y => x + y) 342),
  (342, oALdI 343),
  (343, oIL (fun x => x.toInt64) 344),
  (344, oPush (.long 4294967295) 347),
  (347, oLL (fun x y => x &&& y) 348),
  (348, oLL (fun x y => x ||| y) 349),
  (349, oLdA 0 350),
  (350, oLdI 3 351),
  (351, oPush (.int 3) 352),
  (352, oII (fun x y => x + y) 353),
  (353, oALdI 354),
  (354, oCalV (fun k => if k = 10 then some 86 else none) 2 357),
  (357, oLdA 2 358),
  (358, oLdA 0 359),
  (359, oLdI 3 360),
  (360, oPush (.int 1) 361),
  (361, oII (fun x y => x + y) 362),
  (362, oALdI 363)]
theorem ok218_4 : ∀ q ∈ pg218_4, Sim mT mt218 q.1 q.2 ∧ Grow q.2 :=
  List.forall_mem_cons.mpr ⟨⟨sim_aload_n d218_314 rfl, gr_LdA 2 315⟩,
  List.forall_mem_cons.mpr ⟨⟨sim_aload_n d218_315 rfl, gr_LdA 0 316⟩,
  List.forall_mem_cons.mpr ⟨⟨sim_iload_n d218_316 rfl, gr_LdI 3 317⟩,
  List.forall_mem_cons.mpr ⟨⟨sim_iconst d218_317 (by decide), gr_Push (.int 1) 318⟩,
  List.forall_mem_cons.mpr ⟨⟨sim_iadd d218_318, gr_II (fun x y => x + y) 319⟩,
  List.forall_mem_cons.mpr ⟨⟨sim_iaload d218_319, gr_ALdI 320⟩,
  List.forall_mem_cons.mpr ⟨⟨sim_virtual d218_320 vk150, gr_CalV (fun k => if k = 11 then some 137 else none) 1 323⟩,
  List.forall_mem_cons.mpr ⟨⟨sim_icmp_eq d218_323 (by decide), gr_Ic (fun x y => x = y) 1047 326⟩,
  List.forall_mem_cons.mpr ⟨⟨sim_iconst d218_326 (by decide), gr_Push (.int 0) 327⟩,
  List.forall_mem_cons.mpr ⟨⟨sim_nreturn d218_327 rfl (fun _ h => congrArg Value.int h), gr_RetN .boolean⟩,
  List.forall_mem_cons.mpr ⟨⟨sim_aload_n d218_328 rfl, gr_LdA 1 329⟩,
  List.forall_mem_cons.mpr ⟨⟨sim_aload_n d218_329 rfl, gr_LdA 0 330⟩,
  List.forall_mem_cons.mpr ⟨⟨sim_iload_n d218_330 rfl, gr_LdI 3 331⟩,
  List.forall_mem_cons.mpr ⟨⟨sim_iconst d218_331 (by decide), gr_Push (.int 1) 332⟩,
  List.forall_mem_cons.mpr ⟨⟨sim_iadd d218_332, gr_II (fun x y => x + y) 333⟩,
  List.forall_mem_cons.mpr ⟨⟨sim_iaload d218_333, gr_ALdI 334⟩,
  List.forall_mem_cons.mpr ⟨⟨sim_i2l d218_334, gr_IL (fun x => x.toInt64) 335⟩,
  List.forall_mem_cons.mpr ⟨⟨sim_bipush d218_335 (by decide), gr_Push (.int 32) 337⟩,
  List.forall_mem_cons.mpr ⟨⟨sim_lshl d218_337, gr_LSh (fun x y => x <<< (y.toInt64 &&& 63)) 338⟩,
  List.forall_mem_cons.mpr ⟨⟨sim_aload_n d218_338 rfl, gr_LdA 0 339⟩,
  List.forall_mem_cons.mpr ⟨⟨sim_iload_n d218_339 rfl, gr_LdI 3 340⟩,
  List.forall_mem_cons.mpr ⟨⟨sim_iconst d218_340 (by decide), gr_Push (.int 2) 341⟩,
  List.forall_mem_cons.mpr ⟨⟨sim_iadd d218_341, gr_II (fun x y => x + y) 342⟩,
  List.forall_mem_cons.mpr ⟨⟨sim_iaload d218_342, gr_ALdI 343⟩,
  List.forall_mem_cons.mpr ⟨⟨sim_i2l d218_343, gr_IL (fun x => x.toInt64) 344⟩,
  List.forall_mem_cons.mpr ⟨⟨sim_ldc2 d218_344 kw1358, gr_Push (.long 4294967295) 347⟩,
  List.forall_mem_cons.mpr ⟨⟨sim_land d218_347, gr_LL (fun x y => x &&& y) 348⟩,
  List.forall_mem_cons.mpr ⟨⟨sim_lor d218_348, gr_LL (fun x y => x ||| y) 349⟩,
  List.forall_mem_cons.mpr ⟨⟨sim_aload_n d218_349 rfl, gr_LdA 0 350⟩,
  List.forall_mem_cons.mpr ⟨⟨sim_iload_n d218_350 rfl, gr_LdI 3 351⟩,
  List.forall_mem_cons.mpr ⟨⟨sim_iconst d218_351 (by decide), gr_Push (.int 3) 352⟩,
  List.forall_mem_cons.mpr ⟨⟨sim_iadd d218_352, gr_II (fun x y => x + y) 353⟩,
  List.forall_mem_cons.mpr ⟨⟨sim_iaload d218_353, gr_ALdI 354⟩,
  List.forall_mem_cons.mpr ⟨⟨sim_virtual d218_354 vk151, gr_CalV (fun k => if k = 10 then some 86 else none) 2 357⟩,
  List.forall_mem_cons.mpr ⟨⟨sim_aload_n d218_357 rfl, gr_LdA 2 358⟩,
  List.forall_mem_cons.mpr ⟨⟨sim_aload_n d218_358 rfl, gr_LdA 0 359⟩,
  List.forall_mem_cons.mpr ⟨⟨sim_iload_n d218_359 rfl, gr_LdI 3 360⟩,
  List.forall_mem_cons.mpr ⟨⟨sim_iconst d218_360 (by decide), gr_Push (.int 1) 361⟩,
  List.forall_mem_cons.mpr ⟨⟨sim_iadd d218_361, gr_II (fun x y => x + y) 362⟩,
  List.forall_mem_cons.mpr ⟨⟨sim_iaload d218_362, gr_ALdI 363⟩, fun _ h => absurd h List.not_mem_nil⟩⟩⟩⟩⟩⟩⟩⟩⟩⟩⟩⟩⟩⟩⟩⟩⟩⟩⟩⟩⟩⟩⟩⟩⟩⟩⟩⟩⟩⟩⟩⟩⟩⟩⟩⟩⟩⟩⟩⟩
noncomputable def pg218_5 : List (Nat × aP) := [(363, oIL (fun x => x.toInt64) 364),
  (364, oPush (.int 32) 366),
  (366, oLSh (fun x y => x <<< (y.toInt64 &&& 63)) 367),
  (367, oLdA 0 368),
  (368, oLdI 3 369),
  (369, oPush (.int 2) 370),
  (370, oII (fun x y => x + y) 371),
  (371, oALdI 372),
  (372, oIL (fun x => x.toInt64) 373),
  (373, oPush (.long 4294967295) 376),
  (376, oLL (fun x y => x &&& y) 377),
  (377, oLL (fun x y => x ||| y) 378),
  (378, oLdA 0 379),
  (379, oLdI 3 380),
  (380, oPush (.int 3) 381),
  (381, oII (fun x y => x + y) 382),
  (382, oALdI 383),
  (383, oCalV (fun k => if k = 11 then some 138 else none) 2 386),
  (386, oIc (fun x y => x = y) 1047 389),
  (389, oPush (.int 0) 390),
  (390, oRetN .boolean),
  (391, oLdA 1 392),
  (392, oCalV (fun k => if k = 10 then some 87 else none) 0 395),
  (395, oLdA 2 396),
  (396, oCalV (fun k => if k = 11 then some 156 else none) 0 399),
  (399, oIc (fun x y => x = y) 1047 402),
  (402, oPush (.int 0) 403),
  (403, oRetN .boolean),
  (404, oLdA 1 405),
  (405, oCalV (fun k => if k = 10 then some 88 else none) 0 408),
  (408, oLdA 2 409),
  (409, oCalV (fun k => if k = 11 then some 157 else none) 0 412),
  (412, oIc (fun x y => x = y) 1047 415),
  (415, oPush (.int 0) 416),
  (416, oRetN .boolean),
  (417, oLdA 1 418),
  (418, oLdA 0 419),
  (419, oLdI 3 420),
  (420, oPush (.int 1) 421),
  (421, oII (fun x y => x + y) 422)]
theorem ok218_5 : ∀ q ∈ pg218_5, Sim mT mt218 q.1 q.2 ∧ Grow q.2 :=
  List.forall_mem_cons.mpr ⟨⟨sim_i2l d218_363, gr_IL (fun x => x.toInt64) 364⟩,
  List.forall_mem_cons.mpr ⟨⟨sim_bipush d218_364 (by decide), gr_Push (.int 32) 366⟩,
  List.forall_mem_cons.mpr ⟨⟨sim_lshl d218_366, gr_LSh (fun x y => x <<< (y.toInt64 &&& 63)) 367⟩,
  List.forall_mem_cons.mpr ⟨⟨sim_aload_n d218_367 rfl, gr_LdA 0 368⟩,
  List.forall_mem_cons.mpr ⟨⟨sim_iload_n d218_368 rfl, gr_LdI 3 369⟩,
  List.forall_mem_cons.mpr ⟨⟨sim_iconst d218_369 (by decide), gr_Push (.int 2) 370⟩,
  List.forall_mem_cons.mpr ⟨⟨sim_iadd d218_370, gr_II (fun x y => x + y) 371⟩,
  List.forall_mem_cons.mpr ⟨⟨sim_iaload d218_371, gr_ALdI 372⟩,
  List.forall_mem_cons.mpr ⟨⟨sim_i2l d218_372, gr_IL (fun x => x.toInt64) 373⟩,
  List.forall_mem_cons.mpr ⟨⟨sim_ldc2 d218_373 kw1358, gr_Push (.long 4294967295) 376⟩,
  List.forall_mem_cons.mpr ⟨⟨sim_land d218_376, gr_LL (fun x y => x &&& y) 377⟩,
  List.forall_mem_cons.mpr ⟨⟨sim_lor d218_377, gr_LL (fun x y => x ||| y) 378⟩,
  List.forall_mem_cons.mpr ⟨⟨sim_aload_n d218_378 rfl, gr_LdA 0 379⟩,
  List.forall_mem_cons.mpr ⟨⟨sim_iload_n d218_379 rfl, gr_LdI 3 380⟩,
  List.forall_mem_cons.mpr ⟨⟨sim_iconst d218_380 (by decide), gr_Push (.int 3) 381⟩,
  List.forall_mem_cons.mpr ⟨⟨sim_iadd d218_381, gr_II (fun x y => x + y) 382⟩,
  List.forall_mem_cons.mpr ⟨⟨sim_iaload d218_382, gr_ALdI 383⟩,
  List.forall_mem_cons.mpr ⟨⟨sim_virtual d218_383 vk152, gr_CalV (fun k => if k = 11 then some 138 else none) 2 386⟩,
  List.forall_mem_cons.mpr ⟨⟨sim_icmp_eq d218_386 (by decide), gr_Ic (fun x y => x = y) 1047 389⟩,
  List.forall_mem_cons.mpr ⟨⟨sim_iconst d218_389 (by decide), gr_Push (.int 0) 390⟩,
  List.forall_mem_cons.mpr ⟨⟨sim_nreturn d218_390 rfl (fun _ h => congrArg Value.int h), gr_RetN .boolean⟩,
  List.forall_mem_cons.mpr ⟨⟨sim_aload_n d218_391 rfl, gr_LdA 1 392⟩,
  List.forall_mem_cons.mpr ⟨⟨sim_virtual d218_392 vk153, gr_CalV (fun k => if k = 10 then some 87 else none) 0 395⟩,
  List.forall_mem_cons.mpr ⟨⟨sim_aload_n d218_395 rfl, gr_LdA 2 396⟩,
  List.forall_mem_cons.mpr ⟨⟨sim_virtual d218_396 vk154, gr_CalV (fun k => if k = 11 then some 156 else none) 0 399⟩,
  List.forall_mem_cons.mpr ⟨⟨sim_icmp_eq d218_399 (by decide), gr_Ic (fun x y => x = y) 1047 402⟩,
  List.forall_mem_cons.mpr ⟨⟨sim_iconst d218_402 (by decide), gr_Push (.int 0) 403⟩,
  List.forall_mem_cons.mpr ⟨⟨sim_nreturn d218_403 rfl (fun _ h => congrArg Value.int h), gr_RetN .boolean⟩,
  List.forall_mem_cons.mpr ⟨⟨sim_aload_n d218_404 rfl, gr_LdA 1 405⟩,
  List.forall_mem_cons.mpr ⟨⟨sim_virtual d218_405 vk155, gr_CalV (fun k => if k = 10 then some 88 else none) 0 408⟩,
  List.forall_mem_cons.mpr ⟨⟨sim_aload_n d218_408 rfl, gr_LdA 2 409⟩,
  List.forall_mem_cons.mpr ⟨⟨sim_virtual d218_409 vk156, gr_CalV (fun k => if k = 11 then some 157 else none) 0 412⟩,
  List.forall_mem_cons.mpr ⟨⟨sim_icmp_eq d218_412 (by decide), gr_Ic (fun x y => x = y) 1047 415⟩,
  List.forall_mem_cons.mpr ⟨⟨sim_iconst d218_415 (by decide), gr_Push (.int 0) 416⟩,
  List.forall_mem_cons.mpr ⟨⟨sim_nreturn d218_416 rfl (fun _ h => congrArg Value.int h), gr_RetN .boolean⟩,
  List.forall_mem_cons.mpr ⟨⟨sim_aload_n d218_417 rfl, gr_LdA 1 418⟩,
  List.forall_mem_cons.mpr ⟨⟨sim_aload_n d218_418 rfl, gr_LdA 0 419⟩,
  List.forall_mem_cons.mpr ⟨⟨sim_iload_n d218_419 rfl, gr_LdI 3 420⟩,
  List.forall_mem_cons.mpr ⟨⟨sim_iconst d218_420 (by decide), gr_Push (.int 1) 421⟩,
  List.forall_mem_cons.mpr ⟨⟨sim_iadd d218_421, gr_II (fun x y => x + y) 422⟩, fun _ h => absurd h List.not_mem_nil⟩⟩⟩⟩⟩⟩⟩⟩⟩⟩⟩⟩⟩⟩⟩⟩⟩⟩⟩⟩⟩⟩⟩⟩⟩⟩⟩⟩⟩⟩⟩⟩⟩⟩⟩⟩⟩⟩⟩⟩
noncomputable def pg218_6 : List (Nat × aP) := [(422, oALdI 423),
  (423, oLdA 0 424),
  (424, oLdI 3 425),
  (425, oPush (.int 2) 426),
  (426, oII (fun x y => x + y) 427),
  (427, oALdI 428),
  (428, oCalV (fun k => if k = 10 then some 89 else none) 2 431),
  (431, oLdA 2 432),
  (432, oLdA 0 433),
  (433, oLdI 3 434),
  (434, oPush (.int 1) 435),
  (435, oII (fun x y => x + y) 436),
  (436, oALdI 437),
  (437, oLdA 0 438),
  (438, oLdI 3 439),
  (439, oPush (.int 2) 440),
  (440, oII (fun x y => x + y) 441),
  (441, oALdI 442),
  (442, oCalV (fun k => if k = 11 then some 168 else none) 2 445),
  (445, oIc (fun x y => x = y) 1047 448),
  (448, oPush (.int 0) 449),
  (449, oRetN .boolean),
  (450, oLdA 1 451),
  (451, oLdA 0 452),
  (452, oLdI 3 453),
  (453, oPush (.int 1) 454),
  (454, oII (fun x y => x + y) 455),
  (455, oALdI 456),
  (456, oLdA 0 457),
  (457, oLdI 3 458),
  (458, oPush (.int 2) 459),
  (459, oII (fun x y => x + y) 460),
  (460, oALdI 461),
  (461, oLdA 0 462),
  (462, oLdI 3 463),
  (463, oPush (.int 3) 464),
  (464, oII (fun x y => x + y) 465),
  (465, oALdI 466),
  (466, oLdA 0 467),
  (467, oLdI 3 468)]
theorem ok218_6 : ∀ q ∈ pg218_6, Sim mT mt218 q.1 q.2 ∧ Grow q.2 :=
  List.forall_mem_cons.mpr ⟨⟨sim_iaload d218_422, gr_ALdI 423⟩,
  List.forall_mem_cons.mpr ⟨⟨sim_aload_n d218_423 rfl, gr_LdA 0 424⟩,
  List.forall_mem_cons.mpr ⟨⟨sim_iload_n d218_424 rfl, gr_LdI 3 425⟩,
  List.forall_mem_cons.mpr ⟨⟨sim_iconst d218_425 (by decide), gr_Push (.int 2) 426⟩,
  List.forall_mem_cons.mpr ⟨⟨sim_iadd d218_426, gr_II (fun x y => x + y) 427⟩,
  List.forall_mem_cons.mpr ⟨⟨sim_iaload d218_427, gr_ALdI 428⟩,
  List.forall_mem_cons.mpr ⟨⟨sim_virtual d218_428 vk157, gr_CalV (fun k => if k = 10 then some 89 else none) 2 431⟩,
  List.forall_mem_cons.mpr ⟨⟨sim_aload_n d218_431 rfl, gr_LdA 2 432⟩,
  List.forall_mem_cons.mpr ⟨⟨sim_aload_n d218_432 rfl, gr_LdA 0 433⟩,
  List.forall_mem_cons.mpr ⟨⟨sim_iload_n d218_433 rfl, gr_LdI 3 434⟩,
  List.forall_mem_cons.mpr ⟨⟨sim_iconst d218_434 (by decide), gr_Push (.int 1) 435⟩,
  List.forall_mem_cons.mpr ⟨⟨sim_iadd d218_435, gr_II (fun x y => x + y) 436⟩,
  List.forall_mem_cons.mpr ⟨⟨sim_iaload d218_436, gr_ALdI 437⟩,
  List.forall_mem_cons.mpr ⟨⟨sim_aload_n d218_437 rfl, gr_LdA 0 438⟩,
  List.forall_mem_cons.mpr ⟨⟨sim_iload_n d218_438 rfl, gr_LdI 3 439⟩,
  List.forall_mem_cons.mpr ⟨⟨sim_iconst d218_439 (by decide), gr_Push (.int 2) 440⟩,
  List.forall_mem_cons.mpr ⟨⟨sim_iadd d218_440, gr_II (fun x y => x + y) 441⟩,
  List.forall_mem_cons.mpr ⟨⟨sim_iaload d218_441, gr_ALdI 442⟩,
  List.forall_mem_cons.mpr ⟨⟨sim_virtual d218_442 vk158, gr_CalV (fun k => if k = 11 then some 168 else none) 2 445⟩,
  List.forall_mem_cons.mpr ⟨⟨sim_icmp_eq d218_445 (by decide), gr_Ic (fun x y => x = y) 1047 448⟩,
  List.forall_mem_cons.mpr ⟨⟨sim_iconst d218_448 (by decide), gr_Push (.int 0) 449⟩,
  List.forall_mem_cons.mpr ⟨⟨sim_nreturn d218_449 rfl (fun _ h => congrArg Value.int h), gr_RetN .boolean⟩,
  List.forall_mem_cons.mpr ⟨⟨sim_aload_n d218_450 rfl, gr_LdA 1 451⟩,
  List.forall_mem_cons.mpr ⟨⟨sim_aload_n d218_451 rfl, gr_LdA 0 452⟩,
  List.forall_mem_cons.mpr ⟨⟨sim_iload_n d218_452 rfl, gr_LdI 3 453⟩,
  List.forall_mem_cons.mpr ⟨⟨sim_iconst d218_453 (by decide), gr_Push (.int 1) 454⟩,
  List.forall_mem_cons.mpr ⟨⟨sim_iadd d218_454, gr_II (fun x y => x + y) 455⟩,
  List.forall_mem_cons.mpr ⟨⟨sim_iaload d218_455, gr_ALdI 456⟩,
  List.forall_mem_cons.mpr ⟨⟨sim_aload_n d218_456 rfl, gr_LdA 0 457⟩,
  List.forall_mem_cons.mpr ⟨⟨sim_iload_n d218_457 rfl, gr_LdI 3 458⟩,
  List.forall_mem_cons.mpr ⟨⟨sim_iconst d218_458 (by decide), gr_Push (.int 2) 459⟩,
  List.forall_mem_cons.mpr ⟨⟨sim_iadd d218_459, gr_II (fun x y => x + y) 460⟩,
  List.forall_mem_cons.mpr ⟨⟨sim_iaload d218_460, gr_ALdI 461⟩,
  List.forall_mem_cons.mpr ⟨⟨sim_aload_n d218_461 rfl, gr_LdA 0 462⟩,
  List.forall_mem_cons.mpr ⟨⟨sim_iload_n d218_462 rfl, gr_LdI 3 463⟩,
  List.forall_mem_cons.mpr ⟨⟨sim_iconst d218_463 (by decide), gr_Push (.int 3) 464⟩,
  List.forall_mem_cons.mpr ⟨⟨sim_iadd d218_464, gr_II (fun x y => x + y) 465⟩,
  List.forall_mem_cons.mpr ⟨⟨sim_iaload d218_465, gr_ALdI 466⟩,
  List.forall_mem_cons.mpr ⟨⟨sim_aload_n d218_466 rfl, gr_LdA 0 467⟩,
  List.forall_mem_cons.mpr ⟨⟨sim_iload_n d218_467 rfl, gr_LdI 3 468⟩, fun _ h => absurd h List.not_mem_nil⟩⟩⟩⟩⟩⟩⟩⟩⟩⟩⟩⟩⟩⟩⟩⟩⟩⟩⟩⟩⟩⟩⟩⟩⟩⟩⟩⟩⟩⟩⟩⟩⟩⟩⟩⟩⟩⟩⟩⟩
noncomputable def pg218_7 : List (Nat × aP) := [(468, oPush (.int 4) 469),
  (469, oII (fun x y => x + y) 470),
  (470, oALdI 471),
  (471, oCalV (fun k => if k = 10 then some 90 else none) 4 474),
  (474, oLdA 2 475),
  (475, oLdA 0 476),
  (476, oLdI 3 477),
  (477, oPush (.int 1) 478),
  (478, oII (fun x y => x + y) 479),
  (479, oALdI 480),
  (480, oLdA 0 481),
  (481, oLdI 3 482),
  (482, oPush (.int 2) 483),
  (483, oII (fun x y => x + y) 484),
  (484, oALdI 485),
  (485, oLdA 0 486),
  (486, oLdI 3 487),
  (487, oPush (.int 3) 488),
  (488, oII (fun x y => x + y) 489),
  (489, oALdI 490),
  (490, oLdA 0 491),
  (491, oLdI 3 492),
  (492, oPush (.int 4) 493),
  (493, oII (fun x y => x + y) 494),
  (494, oALdI 495),
  (495, oCalV (fun k => if k = 11 then some 174 else none) 4 498),
  (498, oIc (fun x y => x = y) 1047 501),
  (501, oPush (.int 0) 502),
  (502, oRetN .boolean),
  (503, oLdA 1 504),
  (504, oLdA 0 505),
  (505, oLdI 3 506),
  (506, oPush (.int 1) 507),
  (507, oII (fun x y => x + y) 508),
  (508, oALdI 509),
  (509, oLdA 0 510),
  (510, oLdI 3 511),
  (511, oPush (.int 2) 512),
  (512, oII (fun x y => x + y) 513),
  (513, oALdI 514)]
theorem ok218_7 : ∀ q ∈ pg218_7, Sim mT mt218 q.1 q.2 ∧ Grow q.2 :=
  List.forall_mem_cons.mpr ⟨⟨sim_iconst d218_468 (by decide), gr_Push (.int 4) 469⟩,
  List.forall_mem_cons.mpr ⟨⟨sim_iadd d218_469, gr_II (fun x y => x + y) 470⟩,
  List.forall_mem_cons.mpr ⟨⟨sim_iaload d218_470, gr_ALdI 471⟩,
  List.forall_mem_cons.mpr ⟨⟨sim_virtual d218_471 vk159, gr_CalV (fun k => if k = 10 then some 90 else none) 4 474⟩,
  List.forall_mem_cons.mpr ⟨⟨sim_aload_n d218_474 rfl, gr_LdA 2 475⟩,
  List.forall_mem_cons.mpr ⟨⟨sim_aload_n d218_475 rfl, gr_LdA 0 476⟩,
  List.forall_mem_cons.mpr ⟨⟨sim_iload_n d218_476 rfl, gr_LdI 3 477⟩,
  List.forall_mem_cons.mpr ⟨⟨sim_iconst d218_477 (by decide), gr_Push (.int 1) 478⟩,
  List.forall_mem_cons.mpr ⟨⟨sim_iadd d218_478, gr_II (fun x y => x + y) 479⟩,
  List.forall_mem_cons.mpr ⟨⟨sim_iaload d218_479, gr_ALdI 480⟩,
  List.forall_mem_cons.mpr ⟨⟨sim_aload_n d218_480 rfl, gr_LdA 0 481⟩,
  List.forall_mem_cons.mpr ⟨⟨sim_iload_n d218_481 rfl, gr_LdI 3 482⟩,
  List.forall_mem_cons.mpr ⟨⟨sim_iconst d218_482 (by decide), gr_Push (.int 2) 483⟩,
  List.forall_mem_cons.mpr ⟨⟨sim_iadd d218_483, gr_II (fun x y => x + y) 484⟩,
  List.forall_mem_cons.mpr ⟨⟨sim_iaload d218_484, gr_ALdI 485⟩,
  List.forall_mem_cons.mpr ⟨⟨sim_aload_n d218_485 rfl, gr_LdA 0 486⟩,
  List.forall_mem_cons.mpr ⟨⟨sim_iload_n d218_486 rfl, gr_LdI 3 487⟩,
  List.forall_mem_cons.mpr ⟨⟨sim_iconst d218_487 (by decide), gr_Push (.int 3) 488⟩,
  List.forall_mem_cons.mpr ⟨⟨sim_iadd d218_488, gr_II (fun x y => x + y) 489⟩,
  List.forall_mem_cons.mpr ⟨⟨sim_iaload d218_489, gr_ALdI 490⟩,
  List.forall_mem_cons.mpr ⟨⟨sim_aload_n d218_490 rfl, gr_LdA 0 491⟩,
  List.forall_mem_cons.mpr ⟨⟨sim_iload_n d218_491 rfl, gr_LdI 3 492⟩,
  List.forall_mem_cons.mpr ⟨⟨sim_iconst d218_492 (by decide), gr_Push (.int 4) 493⟩,
  List.forall_mem_cons.mpr ⟨⟨sim_iadd d218_493, gr_II (fun x y => x + y) 494⟩,
  List.forall_mem_cons.mpr ⟨⟨sim_iaload d218_494, gr_ALdI 495⟩,
  List.forall_mem_cons.mpr ⟨⟨sim_virtual d218_495 vk160, gr_CalV (fun k => if k = 11 then some 174 else none) 4 498⟩,
  List.forall_mem_cons.mpr ⟨⟨sim_icmp_eq d218_498 (by decide), gr_Ic (fun x y => x = y) 1047 501⟩,
  List.forall_mem_cons.mpr ⟨⟨sim_iconst d218_501 (by decide), gr_Push (.int 0) 502⟩,
  List.forall_mem_cons.mpr ⟨⟨sim_nreturn d218_502 rfl (fun _ h => congrArg Value.int h), gr_RetN .boolean⟩,
  List.forall_mem_cons.mpr ⟨⟨sim_aload_n d218_503 rfl, gr_LdA 1 504⟩,
  List.forall_mem_cons.mpr ⟨⟨sim_aload_n d218_504 rfl, gr_LdA 0 505⟩,
  List.forall_mem_cons.mpr ⟨⟨sim_iload_n d218_505 rfl, gr_LdI 3 506⟩,
  List.forall_mem_cons.mpr ⟨⟨sim_iconst d218_506 (by decide), gr_Push (.int 1) 507⟩,
  List.forall_mem_cons.mpr ⟨⟨sim_iadd d218_507, gr_II (fun x y => x + y) 508⟩,
  List.forall_mem_cons.mpr ⟨⟨sim_iaload d218_508, gr_ALdI 509⟩,
  List.forall_mem_cons.mpr ⟨⟨sim_aload_n d218_509 rfl, gr_LdA 0 510⟩,
  List.forall_mem_cons.mpr ⟨⟨sim_iload_n d218_510 rfl, gr_LdI 3 511⟩,
  List.forall_mem_cons.mpr ⟨⟨sim_iconst d218_511 (by decide), gr_Push (.int 2) 512⟩,
  List.forall_mem_cons.mpr ⟨⟨sim_iadd d218_512, gr_II (fun x y => x + y) 513⟩,
  List.forall_mem_cons.mpr ⟨⟨sim_iaload d218_513, gr_ALdI 514⟩, fun _ h => absurd h List.not_mem_nil⟩⟩⟩⟩⟩⟩⟩⟩⟩⟩⟩⟩⟩⟩⟩⟩⟩⟩⟩⟩⟩⟩⟩⟩⟩⟩⟩⟩⟩⟩⟩⟩⟩⟩⟩⟩⟩⟩⟩⟩
noncomputable def pg218_8 : List (Nat × aP) := [(514, oLdA 0 515),
  (515, oLdI 3 516),
  (516, oPush (.int 3) 517),
  (517, oII (fun x y => x + y) 518),
  (518, oALdI 519),
  (519, oLdA 0 520),
  (520, oLdI 3 521),
  (521, oPush (.int 4) 522),
  (522, oII (fun x y => x + y) 523),
  (523, oALdI 524),
  (524, oCalV (fun k => if k = 10 then some 91 else none) 4 527),
  (527, oLdA 2 528),
  (528, oLdA 0 529),
  (529, oLdI 3 530),
  (530, oPush (.int 1) 531),
  (531, oII (fun x y => x + y) 532),
  (532, oALdI 533),
  (533, oLdA 0 534),
  (534, oLdI 3 535),
  (535, oPush (.int 2) 536),
  (536, oII (fun x y => x + y) 537),
  (537, oALdI 538),
  (538, oLdA 0 539),
  (539, oLdI 3 540),
  (540, oPush (.int 3) 541),
  (541, oII (fun x y => x + y) 542),
  (542, oALdI 543),
  (543, oLdA 0 544),
  (544, oLdI 3 545),
  (545, oPush (.int 4) 546),
  (546, oII (fun x y => x + y) 547),
  (547, oALdI 548),
  (548, oCalV (fun k => if k = 11 then some 176 else none) 4 551),
  (551, oIc (fun x y => x = y) 1047 554),
  (554, oPush (.int 0) 555),
  (555, oRetN .boolean),
  (556, oLdA 1 557),
  (557, oLdA 0 558),
  (558, oLdI 3 559),
  (559, oPush (.int 1) 560)]
theorem ok218_8 : ∀ q ∈ pg218_8, Sim mT mt218 q.1 q.2 ∧ Grow q.2 :=
  List.forall_mem_cons.mpr ⟨⟨sim_aload_n d218_514 rfl, gr_LdA 0 515⟩,
  List.forall_mem_cons.mpr ⟨⟨sim_iload_n d218_515 rfl, gr_LdI 3 516⟩,
  List.forall_mem_cons.mpr ⟨⟨sim_iconst d218_516 (by decide), gr_Push (.int 3) 517⟩,
  List.forall_mem_cons.mpr ⟨⟨sim_iadd d218_517, gr_II (fun x y => x + y) 518⟩,
  List.forall_mem_cons.mpr ⟨⟨sim_iaload d218_518, gr_ALdI 519⟩,
  List.forall_mem_cons.mpr ⟨⟨sim_aload_n d218_519 rfl, gr_LdA 0 520⟩,
  List.forall_mem_cons.mpr ⟨⟨sim_iload_n d218_520 rfl, gr_LdI 3 521⟩,
  List.forall_mem_cons.mpr ⟨⟨sim_iconst d218_521 (by decide), gr_Push (.int 4) 522⟩,
  List.forall_mem_cons.mpr ⟨⟨sim_iadd d218_522, gr_II (fun x y => x + y) 523⟩,
  List.forall_mem_cons.mpr ⟨⟨sim_iaload d218_523, gr_ALdI 524⟩,
  List.forall_mem_cons.mpr ⟨⟨sim_virtual d218_524 vk161, gr_CalV (fun k => if k = 10 then some 91 else none) 4 527⟩,
  List.forall_mem_cons.mpr ⟨⟨sim_aload_n d218_527 rfl, gr_LdA 2 528⟩,
  List.forall_mem_cons.mpr ⟨⟨sim_aload_n d218_528 rfl, gr_LdA 0 529⟩,
  List.forall_mem_cons.mpr ⟨⟨sim_iload_n d218_529 rfl, gr_LdI 3 530⟩,
  List.forall_mem_cons.mpr ⟨⟨sim_iconst d218_530 (by decide), gr_Push (.int 1) 531⟩,
  List.forall_mem_cons.mpr ⟨⟨sim_iadd d218_531, gr_II (fun x y => x + y) 532⟩,
  List.forall_mem_cons.mpr ⟨⟨sim_iaload d218_532, gr_ALdI 533⟩,
  List.forall_mem_cons.mpr ⟨⟨sim_aload_n d218_533 rfl, gr_LdA 0 534⟩,
  List.forall_mem_cons.mpr ⟨⟨sim_iload_n d218_534 rfl, gr_LdI 3 535⟩,
  List.forall_mem_cons.mpr ⟨⟨sim_iconst d218_535 (by decide), gr_Push (.int 2) 536⟩,
  List.forall_mem_cons.mpr ⟨⟨sim_iadd d218_536, gr_II (fun x y => x + y) 537⟩,
  List.forall_mem_cons.mpr ⟨⟨sim_iaload d218_537, gr_ALdI 538⟩,
  List.forall_mem_cons.mpr ⟨⟨sim_aload_n d218_538 rfl, gr_LdA 0 539⟩,
  List.forall_mem_cons.mpr ⟨⟨sim_iload_n d218_539 rfl, gr_LdI 3 540⟩,
  List.forall_mem_cons.mpr ⟨⟨sim_iconst d218_540 (by decide), gr_Push (.int 3) 541⟩,
  List.forall_mem_cons.mpr ⟨⟨sim_iadd d218_541, gr_II (fun x y => x + y) 542⟩,
  List.forall_mem_cons.mpr ⟨⟨sim_iaload d218_542, gr_ALdI 543⟩,
  List.forall_mem_cons.mpr ⟨⟨sim_aload_n d218_543 rfl, gr_LdA 0 544⟩,
  List.forall_mem_cons.mpr ⟨⟨sim_iload_n d218_544 rfl, gr_LdI 3 545⟩,
  List.forall_mem_cons.mpr ⟨⟨sim_iconst d218_545 (by decide), gr_Push (.int 4) 546⟩,
  List.forall_mem_cons.mpr ⟨⟨sim_iadd d218_546, gr_II (fun x y => x + y) 547⟩,
  List.forall_mem_cons.mpr ⟨⟨sim_iaload d218_547, gr_ALdI 548⟩,
  List.forall_mem_cons.mpr ⟨⟨sim_virtual d218_548 vk162, gr_CalV (fun k => if k = 11 then some 176 else none) 4 551⟩,
  List.forall_mem_cons.mpr ⟨⟨sim_icmp_eq d218_551 (by decide), gr_Ic (fun x y => x = y) 1047 554⟩,
  List.forall_mem_cons.mpr ⟨⟨sim_iconst d218_554 (by decide), gr_Push (.int 0) 555⟩,
  List.forall_mem_cons.mpr ⟨⟨sim_nreturn d218_555 rfl (fun _ h => congrArg Value.int h), gr_RetN .boolean⟩,
  List.forall_mem_cons.mpr ⟨⟨sim_aload_n d218_556 rfl, gr_LdA 1 557⟩,
  List.forall_mem_cons.mpr ⟨⟨sim_aload_n d218_557 rfl, gr_LdA 0 558⟩,
  List.forall_mem_cons.mpr ⟨⟨sim_iload_n d218_558 rfl, gr_LdI 3 559⟩,
  List.forall_mem_cons.mpr ⟨⟨sim_iconst d218_559 (by decide), gr_Push (.int 1) 560⟩, fun _ h => absurd h List.not_mem_nil⟩⟩⟩⟩⟩⟩⟩⟩⟩⟩⟩⟩⟩⟩⟩⟩⟩⟩⟩⟩⟩⟩⟩⟩⟩⟩⟩⟩⟩⟩⟩⟩⟩⟩⟩⟩⟩⟩⟩⟩
noncomputable def pg218_9 : List (Nat × aP) := [(560, oII (fun x y => x + y) 561),
  (561, oALdI 562),
  (562, oCalV (fun k => if k = 10 then some 92 else none) 1 565),
  (565, oLdA 2 566),
  (566, oLdA 0 567),
  (567, oLdI 3 568),
  (568, oPush (.int 1) 569),
  (569, oII (fun x y => x + y) 570),
  (570, oALdI 571),
  (571, oCalV (fun k => if k = 11 then some 178 else none) 1 574),
  (574, oIc (fun x y => x = y) 1047 577),
  (577, oPush (.int 0) 578),
  (578, oRetN .boolean),
  (579, oLdA 1 580),
  (580, oLdA 0 581),
  (581, oLdI 3 582),
  (582, oPush (.int 1) 583),
  (583, oII (fun x y => x + y) 584),
  (584, oALdI 585),
  (585, oLdA 0 586),
  (586, oLdI 3 587),
  (587, oPush (.int 2) 588),
  (588, oII (fun x y => x + y) 589),
  (589, oALdI 590),
  (590, oCalV (fun k => if k = 10 then some 93 else none) 2 593),
  (593, oLdA 2 594),
  (594, oLdA 0 595),
  (595, oLdI 3 596),
  (596, oPush (.int 1) 597),
  (597, oII (fun x y => x + y) 598),
  (598, oALdI 599),
  (599, oLdA 0 600),
  (600, oLdI 3 601),
  (601, oPush (.int 2) 602),
  (602, oII (fun x y => x + y) 603),
  (603, oALdI 604),
  (604, oCalV (fun k => if k = 11 then some 179 else none) 2 607),
  (607, oIc (fun x y => x = y) 1047 610),
  (610, oPush (.int 0) 611),
  (611, oRetN .boolean)]
theorem ok218_9 : ∀ q ∈ pg218_9, Sim mT mt218 q.1 q.2 ∧ Grow q.2 :=
  List.forall_mem_cons.mpr ⟨⟨sim_iadd d218_560, gr_II (fun x y => x + y) 561⟩,
  List.forall_mem_cons.mpr ⟨⟨sim_iaload d218_561, gr_ALdI 562⟩,
  List.forall_mem_cons.mpr ⟨⟨sim_virtual d218_562 vk163, gr_CalV (fun k => if k = 10 then some 92 else none) 1 565⟩,
  List.forall_mem_cons.mpr ⟨⟨sim_aload_n d218_565 rfl, gr_LdA 2 566⟩,
  List.forall_mem_cons.mpr ⟨⟨sim_aload_n d218_566 rfl, gr_LdA 0 567⟩,
  List.forall_mem_cons.mpr ⟨⟨sim_iload_n d218_567 rfl, gr_LdI 3 568⟩,
  List.forall_mem_cons.mpr ⟨⟨sim_iconst d218_568 (by decide), gr_Push (.int 1) 569⟩,
  List.forall_mem_cons.mpr ⟨⟨sim_iadd d218_569, gr_II (fun x y => x + y) 570⟩,
  List.forall_mem_cons.mpr ⟨⟨sim_iaload d218_570, gr_ALdI 571⟩,
  List.forall_mem_cons.mpr ⟨⟨sim_virtual d218_571 vk164, gr_CalV (fun k => if k = 11 then some 178 else none) 1 574⟩,
  List.forall_mem_cons.mpr ⟨⟨sim_icmp_eq d218_574 (by decide), gr_Ic (fun x y => x = y) 1047 577⟩,
  List.forall_mem_cons.mpr ⟨⟨sim_iconst d218_577 (by decide), gr_Push (.int 0) 578⟩,
  List.forall_mem_cons.mpr ⟨⟨sim_nreturn d218_578 rfl (fun _ h => congrArg Value.int h), gr_RetN .boolean⟩,
  List.forall_mem_cons.mpr ⟨⟨sim_aload_n d218_579 rfl, gr_LdA 1 580⟩,
  List.forall_mem_cons.mpr ⟨⟨sim_aload_n d218_580 rfl, gr_LdA 0 581⟩,
  List.forall_mem_cons.mpr ⟨⟨sim_iload_n d218_581 rfl, gr_LdI 3 582⟩,
  List.forall_mem_cons.mpr ⟨⟨sim_iconst d218_582 (by decide), gr_Push (.int 1) 583⟩,
  List.forall_mem_cons.mpr ⟨⟨sim_iadd d218_583, gr_II (fun x y => x + y) 584⟩,
  List.forall_mem_cons.mpr ⟨⟨sim_iaload d218_584, gr_ALdI 585⟩,
  List.forall_mem_cons.mpr ⟨⟨sim_aload_n d218_585 rfl, gr_LdA 0 586⟩,
  List.forall_mem_cons.mpr ⟨⟨sim_iload_n d218_586 rfl, gr_LdI 3 587⟩,
  List.forall_mem_cons.mpr ⟨⟨sim_iconst d218_587 (by decide), gr_Push (.int 2) 588⟩,
  List.forall_mem_cons.mpr ⟨⟨sim_iadd d218_588, gr_II (fun x y => x + y) 589⟩,
  List.forall_mem_cons.mpr ⟨⟨sim_iaload d218_589, gr_ALdI 590⟩,
  List.forall_mem_cons.mpr ⟨⟨sim_virtual d218_590 vk165, gr_CalV (fun k => if k = 10 then some 93 else none) 2 593⟩,
  List.forall_mem_cons.mpr ⟨⟨sim_aload_n d218_593 rfl, gr_LdA 2 594⟩,
  List.forall_mem_cons.mpr ⟨⟨sim_aload_n d218_594 rfl, gr_LdA 0 595⟩,
  List.forall_mem_cons.mpr ⟨⟨sim_iload_n d218_595 rfl, gr_LdI 3 596⟩,
  List.forall_mem_cons.mpr ⟨⟨sim_iconst d218_596 (by decide), gr_Push (.int 1) 597⟩,
  List.forall_mem_cons.mpr ⟨⟨sim_iadd d218_597, gr_II (fun x y => x + y) 598⟩,
  List.forall_mem_cons.mpr ⟨⟨sim_iaload d218_598, gr_ALdI 599⟩,
  List.forall_mem_cons.mpr ⟨⟨sim_aload_n d218_599 rfl, gr_LdA 0 600⟩,
  List.forall_mem_cons.mpr ⟨⟨sim_iload_n d218_600 rfl, gr_LdI 3 601⟩,
  List.forall_mem_cons.mpr ⟨⟨sim_iconst d218_601 (by decide), gr_Push (.int 2) 602⟩,
  List.forall_mem_cons.mpr ⟨⟨sim_iadd d218_602, gr_II (fun x y => x + y) 603⟩,
  List.forall_mem_cons.mpr ⟨⟨sim_iaload d218_603, gr_ALdI 604⟩,
  List.forall_mem_cons.mpr ⟨⟨sim_virtual d218_604 vk166, gr_CalV (fun k => if k = 11 then some 179 else none) 2 607⟩,
  List.forall_mem_cons.mpr ⟨⟨sim_icmp_eq d218_607 (by decide), gr_Ic (fun x y => x = y) 1047 610⟩,
  List.forall_mem_cons.mpr ⟨⟨sim_iconst d218_610 (by decide), gr_Push (.int 0) 611⟩,
  List.forall_mem_cons.mpr ⟨⟨sim_nreturn d218_611 rfl (fun _ h => congrArg Value.int h), gr_RetN .boolean⟩, fun _ h => absurd h List.not_mem_nil⟩⟩⟩⟩⟩⟩⟩⟩⟩⟩⟩⟩⟩⟩⟩⟩⟩⟩⟩⟩⟩⟩⟩⟩⟩⟩⟩⟩⟩⟩⟩⟩⟩⟩⟩⟩⟩⟩⟩⟩
noncomputable def pg218_10 : List (Nat × aP) := [(612, oLdA 1 613),
  (613, oLdA 0 614),
  (614, oLdI 3 615),
  (615, oPush (.int 1) 616),
  (616, oII (fun x y => x + y) 617),
  (617, oALdI 618),
  (618, oCalV (fun k => if k = 10 then some 94 else none) 1 621),
  (621, oLdA 2 622),
  (622, oLdA 0 623),
  (623, oLdI 3 624),
  (624, oPush (.int 1) 625),
  (625, oII (fun x y => x + y) 626),
  (626, oALdI 627),
  (627, oCalV (fun k => if k = 11 then some 180 else none) 1 630),
  (630, oIc (fun x y => x = y) 1047 633),
  (633, oPush (.int 0) 634),
  (634, oRetN .boolean),
  (635, oLdA 1 636),
  (636, oLdA 0 637),
  (637, oLdI 3 638),
  (638, oPush (.int 1) 639),
  (639, oII (fun x y => x + y) 640),
  (640, oALdI 641),
  (641, oLdA 0 642),
  (642, oLdI 3 643),
  (643, oPush (.int 2) 644),
  (644, oII (fun x y => x + y) 645),
  (645, oALdI 646),
  (646, oLdA 0 647),
  (647, oLdI 3 648),
  (648, oPush (.int 3) 649),
  (649, oII (fun x y => x + y) 650),
  (650, oALdI 651),
  (651, oCalV (fun k => if k = 10 then some 95 else none) 3 654),
  (654, oLdA 2 655),
  (655, oLdA 0 656),
  (656, oLdI 3 657),
  (657, oPush (.int 1) 658),
  (658, oII (fun x y => x + y) 659),
  (659, oALdI 660)]
theorem ok218_10 : ∀ q ∈ pg218_10, Sim mT mt218 q.1 q.2 ∧ Grow q.2 :=
  List.forall_mem_cons.mpr ⟨⟨sim_aload_n d218_612 rfl, gr_LdA 1 613⟩,
  List.forall_mem_cons.mpr ⟨⟨sim_aload_n d218_613 rfl, gr_LdA 0 614⟩,
  List.forall_mem_cons.mpr ⟨⟨sim_iload_n d218_614 rfl, gr_LdI 3 615⟩,
  List.forall_mem_cons.mpr ⟨⟨sim_iconst d218_615 (by decide), gr_Push (.int 1) 616⟩,
  List.forall_mem_cons.mpr ⟨⟨sim_iadd d218_616, gr_II (fun x y => x + y) 617⟩,
  List.forall_mem_cons.mpr ⟨⟨sim_iaload d218_617, gr_ALdI 618⟩,
  List.forall_mem_cons.mpr ⟨⟨sim_virtual d218_618 vk167, gr_CalV (fun k => if k = 10 then some 94 else none) 1 621⟩,
  List.forall_mem_cons.mpr ⟨⟨sim_aload_n d218_621 rfl, gr_LdA 2 622⟩,
  List.forall_mem_cons.mpr ⟨⟨sim_aload_n d218_622 rfl, gr_LdA 0 623⟩,
  List.forall_mem_cons.mpr ⟨⟨sim_iload_n d218_623 rfl, gr_LdI 3 624⟩,
  List.forall_mem_cons.mpr ⟨⟨sim_iconst d218_624 (by decide), gr_Push (.int 1) 625⟩,
  List.forall_mem_cons.mpr ⟨⟨sim_iadd d218_625, gr_II (fun x y => x + y) 626⟩,
  List.forall_mem_cons.mpr ⟨⟨sim_iaload d218_626, gr_ALdI 627⟩,
  List.forall_mem_cons.mpr ⟨⟨sim_virtual d218_627 vk168, gr_CalV (fun k => if k = 11 then some 180 else none) 1 630⟩,
  List.forall_mem_cons.mpr ⟨⟨sim_icmp_eq d218_630 (by decide), gr_Ic (fun x y => x = y) 1047 633⟩,
  List.forall_mem_cons.mpr ⟨⟨sim_iconst d218_633 (by decide), gr_Push (.int 0) 634⟩,
  List.forall_mem_cons.mpr ⟨⟨sim_nreturn d218_634 rfl (fun _ h => congrArg Value.int h), gr_RetN .boolean⟩,
  List.forall_mem_cons.mpr ⟨⟨sim_aload_n d218_635 rfl, gr_LdA 1 636⟩,
  List.forall_mem_cons.mpr ⟨⟨sim_aload_n d218_636 rfl, gr_LdA 0 637⟩,
  List.forall_mem_cons.mpr ⟨⟨sim_iload_n d218_637 rfl, gr_LdI 3 638⟩,
  List.forall_mem_cons.mpr ⟨⟨sim_iconst d218_638 (by decide), gr_Push (.int 1) 639⟩,
  List.forall_mem_cons.mpr ⟨⟨sim_iadd d218_639, gr_II (fun x y => x + y) 640⟩,
  List.forall_mem_cons.mpr ⟨⟨sim_iaload d218_640, gr_ALdI 641⟩,
  List.forall_mem_cons.mpr ⟨⟨sim_aload_n d218_641 rfl, gr_LdA 0 642⟩,
  List.forall_mem_cons.mpr ⟨⟨sim_iload_n d218_642 rfl, gr_LdI 3 643⟩,
  List.forall_mem_cons.mpr ⟨⟨sim_iconst d218_643 (by decide), gr_Push (.int 2) 644⟩,
  List.forall_mem_cons.mpr ⟨⟨sim_iadd d218_644, gr_II (fun x y => x + y) 645⟩,
  List.forall_mem_cons.mpr ⟨⟨sim_iaload d218_645, gr_ALdI 646⟩,
  List.forall_mem_cons.mpr ⟨⟨sim_aload_n d218_646 rfl, gr_LdA 0 647⟩,
  List.forall_mem_cons.mpr ⟨⟨sim_iload_n d218_647 rfl, gr_LdI 3 648⟩,
  List.forall_mem_cons.mpr ⟨⟨sim_iconst d218_648 (by decide), gr_Push (.int 3) 649⟩,
  List.forall_mem_cons.mpr ⟨⟨sim_iadd d218_649, gr_II (fun x y => x + y) 650⟩,
  List.forall_mem_cons.mpr ⟨⟨sim_iaload d218_650, gr_ALdI 651⟩,
  List.forall_mem_cons.mpr ⟨⟨sim_virtual d218_651 vk169, gr_CalV (fun k => if k = 10 then some 95 else none) 3 654⟩,
  List.forall_mem_cons.mpr ⟨⟨sim_aload_n d218_654 rfl, gr_LdA 2 655⟩,
  List.forall_mem_cons.mpr ⟨⟨sim_aload_n d218_655 rfl, gr_LdA 0 656⟩,
  List.forall_mem_cons.mpr ⟨⟨sim_iload_n d218_656 rfl, gr_LdI 3 657⟩,
  List.forall_mem_cons.mpr ⟨⟨sim_iconst d218_657 (by decide), gr_Push (.int 1) 658⟩,
  List.forall_mem_cons.mpr ⟨⟨sim_iadd d218_658, gr_II (fun x y => x + y) 659⟩,
  List.forall_mem_cons.mpr ⟨⟨sim_iaload d218_659, gr_ALdI 660⟩, fun _ h => absurd h List.not_mem_nil⟩⟩⟩⟩⟩⟩⟩⟩⟩⟩⟩⟩⟩⟩⟩⟩⟩⟩⟩⟩⟩⟩⟩⟩⟩⟩⟩⟩⟩⟩⟩⟩⟩⟩⟩⟩⟩⟩⟩⟩
noncomputable def pg218_11 : List (Nat × aP) := [(660, oLdA 0 661),
  (661, oLdI 3 662),
  (662, oPush (.int 2) 663),
  (663, oII (fun x y => x + y) 664),
  (664, oALdI 665),
  (665, oLdA 0 666),
  (666, oLdI 3 667),
  (667, oPush (.int 3) 668),
  (668, oII (fun x y => x + y) 669),
  (669, oALdI 670),
  (670, oCalV (fun k => if k = 11 then some 187 else none) 3 673),
  (673, oIc (fun x y => x = y) 1047 676),
  (676, oPush (.int 0) 677),
  (677, oRetN .boolean),
  (678, oLdA 1 679),
  (679, oLdA 0 680),
  (680, oLdI 3 681),
  (681, oPush (.int 1) 682),
  (682, oII (fun x y => x + y) 683),
  (683, oALdI 684),
  (684, oCalV (fun k => if k = 10 then some 96 else none) 1 687),
  (687, oLdA 2 688),
  (688, oLdA 0 689),
  (689, oLdI 3 690),
  (690, oPush (.int 1) 691),
  (691, oII (fun x y => x + y) 692),
  (692, oALdI 693),
  (693, oCalV (fun k => if k = 11 then some 190 else none) 1 696),
  (696, oIc (fun x y => x = y) 1047 699),
  (699, oPush (.int 0) 700),
  (700, oRetN .boolean),
  (701, oLdA 1 702),
  (702, oLdA 0 703),
  (703, oLdI 3 704),
  (704, oPush (.int 1) 705),
  (705, oII (fun x y => x + y) 706),
  (706, oALdI 707),
  (707, oCalV (fun k => if k = 10 then some 97 else none) 1 710),
  (710, oLdA 2 711),
  (711, oLdA 0 712)]
theorem ok218_11 : ∀ q ∈ pg218_11, Sim mT mt218 q.1 q.2 ∧ Grow q.2 :=
  List.forall_mem_cons.mpr ⟨⟨sim_aload_n d218_660 rfl, gr_LdA 0 661⟩,
  List.forall_mem_cons.mpr ⟨⟨sim_iload_n d218_661 rfl, gr_LdI 3 662⟩,
  List.forall_mem_cons.mpr ⟨⟨sim_iconst d218_662 (by decide), gr_Push (.int 2) 663⟩,
  List.forall_mem_cons.mpr ⟨⟨sim_iadd d218_663, gr_II (fun x y => x + y) 664⟩,
  List.forall_mem_cons.mpr ⟨⟨sim_iaload d218_664, gr_ALdI 665⟩,
  List.forall_mem_cons.mpr ⟨⟨sim_aload_n d218_665 rfl, gr_LdA 0 666⟩,
  List.forall_mem_cons.mpr ⟨⟨sim_iload_n d218_666 rfl, gr_LdI 3 667⟩,
  List.forall_mem_cons.mpr ⟨⟨sim_iconst d218_667 (by decide), gr_Push (.int 3) 668⟩,
  List.forall_mem_cons.mpr ⟨⟨sim_iadd d218_668, gr_II (fun x y => x + y) 669⟩,
  List.forall_mem_cons.mpr ⟨⟨sim_iaload d218_669, gr_ALdI 670⟩,
  List.forall_mem_cons.mpr ⟨⟨sim_virtual d218_670 vk170, gr_CalV (fun k => if k = 11 then some 187 else none) 3 673⟩,
  List.forall_mem_cons.mpr ⟨⟨sim_icmp_eq d218_673 (by decide), gr_Ic (fun x y => x = y) 1047 676⟩,
  List.forall_mem_cons.mpr ⟨⟨sim_iconst d218_676 (by decide), gr_Push (.int 0) 677⟩,
  List.forall_mem_cons.mpr ⟨⟨sim_nreturn d218_677 rfl (fun _ h => congrArg Value.int h), gr_RetN .boolean⟩,
  List.forall_mem_cons.mpr ⟨⟨sim_aload_n d218_678 rfl, gr_LdA 1 679⟩,
  List.forall_mem_cons.mpr ⟨⟨sim_aload_n d218_679 rfl, gr_LdA 0 680⟩,
  List.forall_mem_cons.mpr ⟨⟨sim_iload_n d218_680 rfl, gr_LdI 3 681⟩,
  List.forall_mem_cons.mpr ⟨⟨sim_iconst d218_681 (by decide), gr_Push (.int 1) 682⟩,
  List.forall_mem_cons.mpr ⟨⟨sim_iadd d218_682, gr_II (fun x y => x + y) 683⟩,
  List.forall_mem_cons.mpr ⟨⟨sim_iaload d218_683, gr_ALdI 684⟩,
  List.forall_mem_cons.mpr ⟨⟨sim_virtual d218_684 vk171, gr_CalV (fun k => if k = 10 then some 96 else none) 1 687⟩,
  List.forall_mem_cons.mpr ⟨⟨sim_aload_n d218_687 rfl, gr_LdA 2 688⟩,
  List.forall_mem_cons.mpr ⟨⟨sim_aload_n d218_688 rfl, gr_LdA 0 689⟩,
  List.forall_mem_cons.mpr ⟨⟨sim_iload_n d218_689 rfl, gr_LdI 3 690⟩,
  List.forall_mem_cons.mpr ⟨⟨sim_iconst d218_690 (by decide), gr_Push (.int 1) 691⟩,
  List.forall_mem_cons.mpr ⟨⟨sim_iadd d218_691, gr_II (fun x y => x + y) 692⟩,
  List.forall_mem_cons.mpr ⟨⟨sim_iaload d218_692, gr_ALdI 693⟩,
  List.forall_mem_cons.mpr ⟨⟨sim_virtual d218_693 vk172, gr_CalV (fun k => if k = 11 then some 190 else none) 1 696⟩,
  List.forall_mem_cons.mpr ⟨⟨sim_icmp_eq d218_696 (by decide), gr_Ic (fun x y => x = y) 1047 699⟩,
  List.forall_mem_cons.mpr ⟨⟨sim_iconst d218_699 (by decide), gr_Push (.int 0) 700⟩,
  List.forall_mem_cons.mpr ⟨⟨sim_nreturn d218_700 rfl (fun _ h => congrArg Value.int h), gr_RetN .boolean⟩,
  List.forall_mem_cons.mpr ⟨⟨sim_aload_n d218_701 rfl, gr_LdA 1 702⟩,
  List.forall_mem_cons.mpr ⟨⟨sim_aload_n d218_702 rfl, gr_LdA 0 703⟩,
  List.forall_mem_cons.mpr ⟨⟨sim_iload_n d218_703 rfl, gr_LdI 3 704⟩,
  List.forall_mem_cons.mpr ⟨⟨sim_iconst d218_704 (by decide), gr_Push (.int 1) 705⟩,
  List.forall_mem_cons.mpr ⟨⟨sim_iadd d218_705, gr_II (fun x y => x + y) 706⟩,
  List.forall_mem_cons.mpr ⟨⟨sim_iaload d218_706, gr_ALdI 707⟩,
  List.forall_mem_cons.mpr ⟨⟨sim_virtual d218_707 vk173, gr_CalV (fun k => if k = 10 then some 97 else none) 1 710⟩,
  List.forall_mem_cons.mpr ⟨⟨sim_aload_n d218_710 rfl, gr_LdA 2 711⟩,
  List.forall_mem_cons.mpr ⟨⟨sim_aload_n d218_711 rfl, gr_LdA 0 712⟩, fun _ h => absurd h List.not_mem_nil⟩⟩⟩⟩⟩⟩⟩⟩⟩⟩⟩⟩⟩⟩⟩⟩⟩⟩⟩⟩⟩⟩⟩⟩⟩⟩⟩⟩⟩⟩⟩⟩⟩⟩⟩⟩⟩⟩⟩⟩
noncomputable def pg218_12 : List (Nat × aP) := [(712, oLdI 3 713),
  (713, oPush (.int 1) 714),
  (714, oII (fun x y => x + y) 715),
  (715, oALdI 716),
  (716, oCalV (fun k => if k = 11 then some 191 else none) 1 719),
  (719, oIc (fun x y => x = y) 1047 722),
  (722, oPush (.int 0) 723),
  (723, oRetN .boolean),
  (724, oLdA 1 725),
  (725, oLdA 0 726),
  (726, oLdI 3 727),
  (727, oPush (.int 1) 728),
  (728, oII (fun x y => x + y) 729),
  (729, oALdI 730),
  (730, oLdA 0 731),
  (731, oLdI 3 732),
  (732, oPush (.int 2) 733),
  (733, oII (fun x y => x + y) 734),
  (734, oALdI 735),
  (735, oLdA 0 736),
  (736, oLdI 3 737),
  (737, oPush (.int 3) 738),
  (738, oII (fun x y => x + y) 739),
  (739, oALdI 740),
  (740, oCalV (fun k => if k = 10 then some 98 else none) 3 743),
  (743, oLdA 2 744),
  (744, oLdA 0 745),
  (745, oLdI 3 746),
  (746, oPush (.int 1) 747),
  (747, oII (fun x y => x + y) 748),
  (748, oALdI 749),
  (749, oLdA 0 750),
  (750, oLdI 3 751),
  (751, oPush (.int 2) 752),
  (752, oII (fun x y => x + y) 753),
  (753, oALdI 754),
  (754, oLdA 0 755),
  (755, oLdI 3 756),
  (756, oPush (.int 3) 757),
  (757, oII (fun x y => x + y) 758)]
theorem ok218_12 : ∀ q ∈ pg218_12, Sim mT mt218 q.1 q.2 ∧ Grow q.2 :=
  List.forall_mem_cons.mpr ⟨⟨sim_iload_n d218_712 rfl, gr_LdI 3 713⟩,
  List.forall_mem_cons.mpr ⟨⟨sim_iconst d218_713 (by decide), gr_Push (.int 1) 714⟩,
  List.forall_mem_cons.mpr ⟨⟨sim_iadd d218_714, gr_II (fun x y => x + y) 715⟩,
  List.forall_mem_cons.mpr ⟨⟨sim_iaload d218_715, gr_ALdI 716⟩,
  List.forall_mem_cons.mpr ⟨⟨sim_virtual d218_716 vk174, gr_CalV (fun k => if k = 11 then some 191 else none) 1 719⟩,
  List.forall_mem_cons.mpr ⟨⟨sim_icmp_eq d218_719 (by decide), gr_Ic (fun x y => x = y) 1047 722⟩,
  List.forall_mem_cons.mpr ⟨⟨sim_iconst d218_722 (by decide), gr_Push (.int 0) 723⟩,
  List.forall_mem_cons.mpr ⟨⟨sim_nreturn d218_723 rfl (fun _ h => congrArg Value.int h), gr_RetN .boolean⟩,
  List.forall_mem_cons.mpr ⟨⟨sim_aload_n d218_724 rfl, gr_LdA 1 725⟩,
  List.forall_mem_cons.mpr ⟨⟨sim_aload_n d218_725 rfl, gr_LdA 0 726⟩,
  List.forall_mem_cons.mpr ⟨⟨sim_iload_n d218_726 rfl, gr_LdI 3 727⟩,
  List.forall_mem_cons.mpr ⟨⟨sim_iconst d218_727 (by decide), gr_Push (.int 1) 728⟩,
  List.forall_mem_cons.mpr ⟨⟨sim_iadd d218_728, gr_II (fun x y => x + y) 729⟩,
  List.forall_mem_cons.mpr ⟨⟨sim_iaload d218_729, gr_ALdI 730⟩,
  List.forall_mem_cons.mpr ⟨⟨sim_aload_n d218_730 rfl, gr_LdA 0 731⟩,
  List.forall_mem_cons.mpr ⟨⟨sim_iload_n d218_731 rfl, gr_LdI 3 732⟩,
  List.forall_mem_cons.mpr ⟨⟨sim_iconst d218_732 (by decide), gr_Push (.int 2) 733⟩,
  List.forall_mem_cons.mpr ⟨⟨sim_iadd d218_733, gr_II (fun x y => x + y) 734⟩,
  List.forall_mem_cons.mpr ⟨⟨sim_iaload d218_734, gr_ALdI 735⟩,
  List.forall_mem_cons.mpr ⟨⟨sim_aload_n d218_735 rfl, gr_LdA 0 736⟩,
  List.forall_mem_cons.mpr ⟨⟨sim_iload_n d218_736 rfl, gr_LdI 3 737⟩,
  List.forall_mem_cons.mpr ⟨⟨sim_iconst d218_737 (by decide), gr_Push (.int 3) 738⟩,
  List.forall_mem_cons.mpr ⟨⟨sim_iadd d218_738, gr_II (fun x y => x + y) 739⟩,
  List.forall_mem_cons.mpr ⟨⟨sim_iaload d218_739, gr_ALdI 740⟩,
  List.forall_mem_cons.mpr ⟨⟨sim_virtual d218_740 vk175, gr_CalV (fun k => if k = 10 then some 98 else none) 3 743⟩,
  List.forall_mem_cons.mpr ⟨⟨sim_aload_n d218_743 rfl, gr_LdA 2 744⟩,
  List.forall_mem_cons.mpr ⟨⟨sim_aload_n d218_744 rfl, gr_LdA 0 745⟩,
  List.forall_mem_cons.mpr ⟨⟨sim_iload_n d218_745 rfl, gr_LdI 3 746⟩,
  List.forall_mem_cons.mpr ⟨⟨sim_iconst d218_746 (by decide), gr_Push (.int 1) 747⟩,
  List.forall_mem_cons.mpr ⟨⟨sim_iadd d218_747, gr_II (fun x y => x + y) 748⟩,
  List.forall_mem_cons.mpr ⟨⟨sim_iaload d218_748, gr_ALdI 749⟩,
  List.forall_mem_cons.mpr ⟨⟨sim_aload_n d218_749 rfl, gr_LdA 0 750⟩,
  List.forall_mem_cons.mpr ⟨⟨sim_iload_n d218_750 rfl, gr_LdI 3 751⟩,
  List.forall_mem_cons.mpr ⟨⟨sim_iconst d218_751 (by decide), gr_Push (.int 2) 752⟩,
  List.forall_mem_cons.mpr ⟨⟨sim_iadd d218_752, gr_II (fun x y => x + y) 753⟩,
  List.forall_mem_cons.mpr ⟨⟨sim_iaload d218_753, gr_ALdI 754⟩,
  List.forall_mem_cons.mpr ⟨⟨sim_aload_n d218_754 rfl, gr_LdA 0 755⟩,
  List.forall_mem_cons.mpr ⟨⟨sim_iload_n d218_755 rfl, gr_LdI 3 756⟩,
  List.forall_mem_cons.mpr ⟨⟨sim_iconst d218_756 (by decide), gr_Push (.int 3) 757⟩,
  List.forall_mem_cons.mpr ⟨⟨sim_iadd d218_757, gr_II (fun x y => x + y) 758⟩, fun _ h => absurd h List.not_mem_nil⟩⟩⟩⟩⟩⟩⟩⟩⟩⟩⟩⟩⟩⟩⟩⟩⟩⟩⟩⟩⟩⟩⟩⟩⟩⟩⟩⟩⟩⟩⟩⟩⟩⟩⟩⟩⟩⟩⟩⟩
noncomputable def pg218_13 : List (Nat × aP) := [(758, oALdI 759),
  (759, oCalV (fun k => if k = 11 then some 192 else none) 3 762),
  (762, oIc (fun x y => x = y) 1047 765),
  (765, oPush (.int 0) 766),
  (766, oRetN .boolean),
  (767, oLdA 1 768),
  (768, oLdA 0 769),
  (769, oLdI 3 770),
  (770, oPush (.int 1) 771),
  (771, oII (fun x y => x + y) 772),
  (772, oALdI 773),
  (773, oLdA 0 774),
  (774, oLdI 3 775),
  (775, oPush (.int 2) 776),
  (776, oII (fun x y => x + y) 777),
  (777, oALdI 778),
  (778, oCalV (fun k => if k = 10 then some 99 else none) 2 781),
  (781, oLdA 2 782),
  (782, oLdA 0 783),
  (783, oLdI 3 784),
  (784, oPush (.int 1) 785),
  (785, oII (fun x y => x + y) 786),
  (786, oALdI 787),
  (787, oLdA 0 788),
  (788, oLdI 3 789),
  (789, oPush (.int 2) 790),
  (790, oII (fun x y => x + y) 791),
  (791, oALdI 792),
  (792, oCalV (fun k => if k = 11 then some 193 else none) 2 795),
  (795, oIc (fun x y => x = y) 1047 798),
  (798, oPush (.int 0) 799),
  (799, oRetN .boolean),
  (800, oLdA 1 801),
  (801, oLdA 0 802),
  (802, oLdI 3 803),
  (803, oPush (.int 1) 804),
  (804, oII (fun x y => x + y) 805),
  (805, oALdI 806),
  (806, oLdA 0 807),
  (807, oLdI 3 808)]
theorem ok218_13 : ∀ q ∈ pg218_13, Sim mT mt218 q.1 q.2 ∧ Grow q.2 :=
  List.forall_mem_cons.mpr ⟨⟨sim_iaload d218_758, gr_ALdI 759⟩,
  List.forall_mem_cons.mpr ⟨⟨sim_virtual d218_759 vk176, gr_CalV (fun k => if k = 11 then some 192 else none) 3 762⟩,
  List.forall_mem_cons.mpr ⟨⟨sim_icmp_eq d218_762 (by decide), gr_Ic (fun x y => x = y) 1047 765⟩,
  List.forall_mem_cons.mpr ⟨⟨sim_iconst d218_765 (by decide), gr_Push (.int 0) 766⟩,
  List.forall_mem_cons.mpr ⟨⟨sim_nreturn d218_766 rfl (fun _ h => congrArg Value.int h), gr_RetN .boolean⟩,
  List.forall_mem_cons.mpr ⟨⟨sim_aload_n d218_767 rfl, gr_LdA 1 768⟩,
  List.forall_mem_cons.mpr ⟨⟨sim_aload_n d218_768 rfl, gr_LdA 0 769⟩,
  List.forall_mem_cons.mpr ⟨⟨sim_iload_n d218_769 rfl, gr_LdI 3 770⟩,
  List.forall_mem_cons.mpr ⟨⟨sim_iconst d218_770 (by decide), gr_Push (.int 1) 771⟩,
  List.forall_mem_cons.mpr ⟨⟨sim_iadd d218_771, gr_II (fun x y => x + y) 772⟩,
  List.forall_mem_cons.mpr ⟨⟨sim_iaload d218_772, gr_ALdI 773⟩,
  List.forall_mem_cons.mpr ⟨⟨sim_aload_n d218_773 rfl, gr_LdA 0 774⟩,
  List.forall_mem_cons.mpr ⟨⟨sim_iload_n d218_774 rfl, gr_LdI 3 775⟩,
  List.forall_mem_cons.mpr ⟨⟨sim_iconst d218_775 (by decide), gr_Push (.int 2) 776⟩,
  List.forall_mem_cons.mpr ⟨⟨sim_iadd d218_776, gr_II (fun x y => x + y) 777⟩,
  List.forall_mem_cons.mpr ⟨⟨sim_iaload d218_777, gr_ALdI 778⟩,
  List.forall_mem_cons.mpr ⟨⟨sim_virtual d218_778 vk177, gr_CalV (fun k => if k = 10 then some 99 else none) 2 781⟩,
  List.forall_mem_cons.mpr ⟨⟨sim_aload_n d218_781 rfl, gr_LdA 2 782⟩,
  List.forall_mem_cons.mpr ⟨⟨sim_aload_n d218_782 rfl, gr_LdA 0 783⟩,
  List.forall_mem_cons.mpr ⟨⟨sim_iload_n d218_783 rfl, gr_LdI 3 784⟩,
  List.forall_mem_cons.mpr ⟨⟨sim_iconst d218_784 (by decide), gr_Push (.int 1) 785⟩,
  List.forall_mem_cons.mpr ⟨⟨sim_iadd d218_785, gr_II (fun x y => x + y) 786⟩,
  List.forall_mem_cons.mpr ⟨⟨sim_iaload d218_786, gr_ALdI 787⟩,
  List.forall_mem_cons.mpr ⟨⟨sim_aload_n d218_787 rfl, gr_LdA 0 788⟩,
  List.forall_mem_cons.mpr ⟨⟨sim_iload_n d218_788 rfl, gr_LdI 3 789⟩,
  List.forall_mem_cons.mpr ⟨⟨sim_iconst d218_789 (by decide), gr_Push (.int 2) 790⟩,
  List.forall_mem_cons.mpr ⟨⟨sim_iadd d218_790, gr_II (fun x y => x + y) 791⟩,
  List.forall_mem_cons.mpr ⟨⟨sim_iaload d218_791, gr_ALdI 792⟩,
  List.forall_mem_cons.mpr ⟨⟨sim_virtual d218_792 vk178, gr_CalV (fun k => if k = 11 then some 193 else none) 2 795⟩,
  List.forall_mem_cons.mpr ⟨⟨sim_icmp_eq d218_795 (by decide), gr_Ic (fun x y => x = y) 1047 798⟩,
  List.forall_mem_cons.mpr ⟨⟨sim_iconst d218_798 (by decide), gr_Push (.int 0) 799⟩,
  List.forall_mem_cons.mpr ⟨⟨sim_nreturn d218_799 rfl (fun _ h => congrArg Value.int h), gr_RetN .boolean⟩,
  List.forall_mem_cons.mpr ⟨⟨sim_aload_n d218_800 rfl, gr_LdA 1 801⟩,
  List.forall_mem_cons.mpr ⟨⟨sim_aload_n d218_801 rfl, gr_LdA 0 802⟩,
  List.forall_mem_cons.mpr ⟨⟨sim_iload_n d218_802 rfl, gr_LdI 3 803⟩,
  List.forall_mem_cons.mpr ⟨⟨sim_iconst d218_803 (by decide), gr_Push (.int 1) 804⟩,
  List.forall_mem_cons.mpr ⟨⟨sim_iadd d218_804, gr_II (fun x y => x + y) 805⟩,
  List.forall_mem_cons.mpr ⟨⟨sim_iaload d218_805, gr_ALdI 806⟩,
  List.forall_mem_cons.mpr ⟨⟨sim_aload_n d218_806 rfl, gr_LdA 0 807⟩,
  List.forall_mem_cons.mpr ⟨⟨sim_iload_n d218_807 rfl, gr_LdI 3 808⟩, fun _ h => absurd h List.not_mem_nil⟩⟩⟩⟩⟩⟩⟩⟩⟩⟩⟩⟩⟩⟩⟩⟩⟩⟩⟩⟩⟩⟩⟩⟩⟩⟩⟩⟩⟩⟩⟩⟩⟩⟩⟩⟩⟩⟩⟩⟩
noncomputable def pg218_14 : List (Nat × aP) := [(808, oPush (.int 2) 809),
  (809, oII (fun x y => x + y) 810),
  (810, oALdI 811),
  (811, oLdA 0 812),
  (812, oLdI 3 813),
  (813, oPush (.int 3) 814),
  (814, oII (fun x y => x + y) 815),
  (815, oALdI 816),
  (816, oLdA 0 817),
  (817, oLdI 3 818),
  (818, oPush (.int 4) 819),
  (819, oII (fun x y => x + y) 820),
  (820, oALdI 821),
  (821, oCalV (fun k => if k = 10 then some 100 else none) 4 824),
  (824, oLdA 2 825),
  (825, oLdA 0 826),
  (826, oLdI 3 827),
  (827, oPush (.int 1) 828),
  (828, oII (fun x y => x + y) 829),
  (829, oALdI 830),
  (830, oLdA 0 831),
  (831, oLdI 3 832),
  (832, oPush (.int 2) 833),
  (833, oII (fun x y => x + y) 834),
  (834, oALdI 835),
  (835, oLdA 0 836),
  (836, oLdI 3 837),
  (837, oPush (.int 3) 838),
  (838, oII (fun x y => x + y) 839),
  (839, oALdI 840),
  (840, oLdA 0 841),
  (841, oLdI 3 842),
  (842, oPush (.int 4) 843),
  (843, oII (fun x y => x + y) 844),
  (844, oALdI 845),
  (845, oCalV (fun k => if k = 11 then some 195 else none) 4 848),
  (848, oIc (fun x y => x = y) 1047 851),
  (851, oPush (.int 0) 852),
  (852, oRetN .boolean),
  (853, oLdA 1 854)]
theorem ok218_14 : ∀ q ∈ pg218_14, Sim mT mt218 q.1 q.2 ∧ Grow q.2 :=
  List.forall_mem_cons.mpr ⟨⟨sim_iconst d218_808 (by decide), gr_Push (.int 2) 809⟩,
  List.forall_mem_cons.mpr ⟨⟨sim_iadd d218_809, gr_II (fun x y => x + y) 810⟩,
  List.forall_mem_cons.mpr ⟨⟨sim_iaload d218_810, gr_ALdI 811⟩,
  List.forall_mem_cons.mpr ⟨⟨sim_aload_n d218_811 rfl, gr_LdA 0 812⟩,
  List.forall_mem_cons.mpr ⟨⟨sim_iload_n d218_812 rfl, gr_LdI 3 813⟩,
  List.forall_mem_cons.mpr ⟨⟨sim_iconst d218_813 (by decide), gr_Push (.int 3) 814⟩,
  List.forall_mem_cons.mpr ⟨⟨sim_iadd d218_814, gr_II (fun x y => x + y) 815⟩,
  List.forall_mem_cons.mpr ⟨⟨sim_iaload d218_815, gr_ALdI 816⟩,
  List.forall_mem_cons.mpr ⟨⟨sim_aload_n d218_816 rfl, gr_LdA 0 817⟩,
  List.forall_mem_cons.mpr ⟨⟨sim_iload_n d218_817 rfl, gr_LdI 3 818⟩,
  List.forall_mem_cons.mpr ⟨⟨sim_iconst d218_818 (by decide), gr_Push (.int 4) 819⟩,
  List.forall_mem_cons.mpr ⟨⟨sim_iadd d218_819, gr_II (fun x y => x + y) 820⟩,
  List.forall_mem_cons.mpr ⟨⟨sim_iaload d218_820, gr_ALdI 821⟩,
  List.forall_mem_cons.mpr ⟨⟨sim_virtual d218_821 vk179, gr_CalV (fun k => if k = 10 then some 100 else none) 4 824⟩,
  List.forall_mem_cons.mpr ⟨⟨sim_aload_n d218_824 rfl, gr_LdA 2 825⟩,
  List.forall_mem_cons.mpr ⟨⟨sim_aload_n d218_825 rfl, gr_LdA 0 826⟩,
  List.forall_mem_cons.mpr ⟨⟨sim_iload_n d218_826 rfl, gr_LdI 3 827⟩,
  List.forall_mem_cons.mpr ⟨⟨sim_iconst d218_827 (by decide), gr_Push (.int 1) 828⟩,
  List.forall_mem_cons.mpr ⟨⟨sim_iadd d218_828, gr_II (fun x y => x + y) 829⟩,
  List.forall_mem_cons.mpr ⟨⟨sim_iaload d218_829, gr_ALdI 830⟩,
  List.forall_mem_cons.mpr ⟨⟨sim_aload_n d218_830 rfl, gr_LdA 0 831⟩,
  List.forall_mem_cons.mpr ⟨⟨sim_iload_n d218_831 rfl, gr_LdI 3 832⟩,
  List.forall_mem_cons.mpr ⟨⟨sim_iconst d218_832 (by decide), gr_Push (.int 2) 833⟩,
  List.forall_mem_cons.mpr ⟨⟨sim_iadd d218_833, gr_II (fun x y => x + y) 834⟩,
  List.forall_mem_cons.mpr ⟨⟨sim_iaload d218_834, gr_ALdI 835⟩,
  List.forall_mem_cons.mpr ⟨⟨sim_aload_n d218_835 rfl, gr_LdA 0 836⟩,
  List.forall_mem_cons.mpr ⟨⟨sim_iload_n d218_836 rfl, gr_LdI 3 837⟩,
  List.forall_mem_cons.mpr ⟨⟨sim_iconst d218_837 (by decide), gr_Push (.int 3) 838⟩,
  List.forall_mem_cons.mpr ⟨⟨sim_iadd d218_838, gr_II (fun x y => x + y) 839⟩,
  List.forall_mem_cons.mpr ⟨⟨sim_iaload d218_839, gr_ALdI 840⟩,
  List.forall_mem_cons.mpr ⟨⟨sim_aload_n d218_840 rfl, gr_LdA 0 841⟩,
  List.forall_mem_cons.mpr ⟨⟨sim_iload_n d218_841 rfl, gr_LdI 3 842⟩,
  List.forall_mem_cons.mpr ⟨⟨sim_iconst d218_842 (by decide), gr_Push (.int 4) 843⟩,
  List.forall_mem_cons.mpr ⟨⟨sim_iadd d218_843, gr_II (fun x y => x + y) 844⟩,
  List.forall_mem_cons.mpr ⟨⟨sim_iaload d218_844, gr_ALdI 845⟩,
  List.forall_mem_cons.mpr ⟨⟨sim_virtual d218_845 vk180, gr_CalV (fun k => if k = 11 then some 195 else none) 4 848⟩,
  List.forall_mem_cons.mpr ⟨⟨sim_icmp_eq d218_848 (by decide), gr_Ic (fun x y => x = y) 1047 851⟩,
  List.forall_mem_cons.mpr ⟨⟨sim_iconst d218_851 (by decide), gr_Push (.int 0) 852⟩,
  List.forall_mem_cons.mpr ⟨⟨sim_nreturn d218_852 rfl (fun _ h => congrArg Value.int h), gr_RetN .boolean⟩,
  List.forall_mem_cons.mpr ⟨⟨sim_aload_n d218_853 rfl, gr_LdA 1 854⟩, fun _ h => absurd h List.not_mem_nil⟩⟩⟩⟩⟩⟩⟩⟩⟩⟩⟩⟩⟩⟩⟩⟩⟩⟩⟩⟩⟩⟩⟩⟩⟩⟩⟩⟩⟩⟩⟩⟩⟩⟩⟩⟩⟩⟩⟩⟩
noncomputable def pg218_15 : List (Nat × aP) := [(854, oLdA 0 855),
  (855, oLdI 3 856),
  (856, oPush (.int 1) 857),
  (857, oII (fun x y => x + y) 858),
  (858, oALdI 859),
  (859, oCalV (fun k => if k = 10 then some 101 else none) 1 862),
  (862, oLdA 2 863),
  (863, oLdA 0 864),
  (864, oLdI 3 865),
  (865, oPush (.int 1) 866),
  (866, oII (fun x y => x + y) 867),
  (867, oALdI 868),
  (868, oCalV (fun k => if k = 11 then some 196 else none) 1 871),
  (871, oIc (fun x y => x = y) 1047 874),
  (874, oPush (.int 0) 875),
  (875, oRetN .boolean),
  (876, oLdA 1 877),
  (877, oLdA 0 878),
  (878, oLdI 3 879),
  (879, oPush (.int 1) 880),
  (880, oII (fun x y => x + y) 881),
  (881, oALdI 882),
  (882, oCalV (fun k => if k = 10 then some 102 else none) 1 885),
  (885, oLdA 2 886),
  (886, oLdA 0 887),
  (887, oLdI 3 888),
  (888, oPush (.int 1) 889),
  (889, oII (fun x y => x + y) 890),
  (890, oALdI 891),
  (891, oCalV (fun k => if k = 11 then some 197 else none) 1 894),
  (894, oIc (fun x y => x = y) 1047 897),
  (897, oPush (.int 0) 898),
  (898, oRetN .boolean),
  (899, oLdA 1 900),
  (900, oLdA 0 901),
  (901, oLdI 3 902),
  (902, oPush (.int 1) 903),
  (903, oII (fun x y => x + y) 904),
  (904, oALdI 905),
  (905, oCalV (fun k => if k = 10 then some 103 else none) 1 908)]
theorem ok218_15 : ∀ q ∈ pg218_15, Sim mT mt218 q.1 q.2 ∧ Grow q.2 :=
  List.forall_mem_cons.mpr ⟨⟨sim_aload_n d218_854 rfl, gr_LdA 0 855⟩,
  List.forall_mem_cons.mpr ⟨⟨sim_iload_n d218_855 rfl, gr_LdI 3 856⟩,
  List.forall_mem_cons.mpr ⟨⟨sim_iconst d218_856 (by decide), gr_Push (.int 1) 857⟩,
  List.forall_mem_cons.mpr ⟨⟨sim_iadd d218_857, gr_II (fun x y => x + y) 858⟩,
  List.forall_mem_cons.mpr ⟨⟨sim_iaload d218_858, gr_ALdI 859⟩,
  List.forall_mem_cons.mpr ⟨⟨sim_virtual d218_859 vk181, gr_CalV (fun k => if k = 10 then some 101 else none) 1 862⟩,
  List.forall_mem_cons.mpr ⟨⟨sim_aload_n d218_862 rfl, gr_LdA 2 863⟩,
  List.forall_mem_cons.mpr ⟨⟨sim_aload_n d218_863 rfl, gr_LdA 0 864⟩,
  List.forall_mem_cons.mpr ⟨⟨sim_iload_n d218_864 rfl, gr_LdI 3 865⟩,
  List.forall_mem_cons.mpr ⟨⟨sim_iconst d218_865 (by decide), gr_Push (.int 1) 866⟩,
  List.forall_mem_cons.mpr ⟨⟨sim_iadd d218_866, gr_II (fun x y => x + y) 867⟩,
  List.forall_mem_cons.mpr ⟨⟨sim_iaload d218_867, gr_ALdI 868⟩,
  List.forall_mem_cons.mpr ⟨⟨sim_virtual d218_868 vk182, gr_CalV (fun k => if k = 11 then some 196 else none) 1 871⟩,
  List.forall_mem_cons.mpr ⟨⟨sim_icmp_eq d218_871 (by decide), gr_Ic (fun x y => x = y) 1047 874⟩,
  List.forall_mem_cons.mpr ⟨⟨sim_iconst d218_874 (by decide), gr_Push (.int 0) 875⟩,
  List.forall_mem_cons.mpr ⟨⟨sim_nreturn d218_875 rfl (fun _ h => congrArg Value.int h), gr_RetN .boolean⟩,
  List.forall_mem_cons.mpr ⟨⟨sim_aload_n d218_876 rfl, gr_LdA 1 877⟩,
  List.forall_mem_cons.mpr ⟨⟨sim_aload_n d218_877 rfl, gr_LdA 0 878⟩,
  List.forall_mem_cons.mpr ⟨⟨sim_iload_n d218_878 rfl, gr_LdI 3 879⟩,
  List.forall_mem_cons.mpr ⟨⟨sim_iconst d218_879 (by decide), gr_Push (.int 1) 880⟩,
  List.forall_mem_cons.mpr ⟨⟨sim_iadd d218_880, gr_II (fun x y => x + y) 881⟩,
  List.forall_mem_cons.mpr ⟨⟨sim_iaload d218_881, gr_ALdI 882⟩,
  List.forall_mem_cons.mpr ⟨⟨sim_virtual d218_882 vk183, gr_CalV (fun k => if k = 10 then some 102 else none) 1 885⟩,
  List.forall_mem_cons.mpr ⟨⟨sim_aload_n d218_885 rfl, gr_LdA 2 886⟩,
  List.forall_mem_cons.mpr ⟨⟨sim_aload_n d218_886 rfl, gr_LdA 0 887⟩,
  List.forall_mem_cons.mpr ⟨⟨sim_iload_n d218_887 rfl, gr_LdI 3 888⟩,
  List.forall_mem_cons.mpr ⟨⟨sim_iconst d218_888 (by decide), gr_Push (.int 1) 889⟩,
  List.forall_mem_cons.mpr ⟨⟨sim_iadd d218_889, gr_II (fun x y => x + y) 890⟩,
  List.forall_mem_cons.mpr ⟨⟨sim_iaload d218_890, gr_ALdI 891⟩,
  List.forall_mem_cons.mpr ⟨⟨sim_virtual d218_891 vk184, gr_CalV (fun k => if k = 11 then some 197 else none) 1 894⟩,
  List.forall_mem_cons.mpr ⟨⟨sim_icmp_eq d218_894 (by decide), gr_Ic (fun x y => x = y) 1047 897⟩,
  List.forall_mem_cons.mpr ⟨⟨sim_iconst d218_897 (by decide), gr_Push (.int 0) 898⟩,
  List.forall_mem_cons.mpr ⟨⟨sim_nreturn d218_898 rfl (fun _ h => congrArg Value.int h), gr_RetN .boolean⟩,
  List.forall_mem_cons.mpr ⟨⟨sim_aload_n d218_899 rfl, gr_LdA 1 900⟩,
  List.forall_mem_cons.mpr ⟨⟨sim_aload_n d218_900 rfl, gr_LdA 0 901⟩,
  List.forall_mem_cons.mpr ⟨⟨sim_iload_n d218_901 rfl, gr_LdI 3 902⟩,
  List.forall_mem_cons.mpr ⟨⟨sim_iconst d218_902 (by decide), gr_Push (.int 1) 903⟩,
  List.forall_mem_cons.mpr ⟨⟨sim_iadd d218_903, gr_II (fun x y => x + y) 904⟩,
  List.forall_mem_cons.mpr ⟨⟨sim_iaload d218_904, gr_ALdI 905⟩,
  List.forall_mem_cons.mpr ⟨⟨sim_virtual d218_905 vk185, gr_CalV (fun k => if k = 10 then some 103 else none) 1 908⟩, fun _ h => absurd h List.not_mem_nil⟩⟩⟩⟩⟩⟩⟩⟩⟩⟩⟩⟩⟩⟩⟩⟩⟩⟩⟩⟩⟩⟩⟩⟩⟩⟩⟩⟩⟩⟩⟩⟩⟩⟩⟩⟩⟩⟩⟩⟩
noncomputable def pg218_16 : List (Nat × aP) := [(908, oLdA 2 909),
  (909, oLdA 0 910),
  (910, oLdI 3 911),
  (911, oPush (.int 1) 912),
  (912, oII (fun x y => x + y) 913),
  (913, oALdI 914),
  (914, oCalV (fun k => if k = 11 then some 200 else none) 1 917),
  (917, oIc (fun x y => x = y) 1047 920),
  (920, oPush (.int 0) 921),
  (921, oRetN .boolean),
  (922, oLdA 1 923),
  (923, oLdA 0 924),
  (924, oLdI 3 925),
  (925, oPush (.int 1) 926),
  (926, oII (fun x y => x + y) 927),
  (927, oALdI 928),
  (928, oLdA 0 929),
  (929, oLdI 3 930),
  (930, oPush (.int 2) 931),
  (931, oII (fun x y => x + y) 932),
  (932, oALdI 933),
  (933, oCalV (fun k => if k = 10 then some 104 else none) 2 936),
  (936, oLdA 2 937),
  (937, oLdA 0 938),
  (938, oLdI 3 939),
  (939, oPush (.int 1) 940),
  (940, oII (fun x y => x + y) 941),
  (941, oALdI 942),
  (942, oLdA 0 943),
  (943, oLdI 3 944),
  (944, oPush (.int 2) 945),
  (945, oII (fun x y => x + y) 946),
  (946, oALdI 947),
  (947, oCalV (fun k => if k = 11 then some 201 else none) 2 950),
  (950, oIc (fun x y => x = y) 1047 953),
  (953, oPush (.int 0) 954),
  (954, oRetN .boolean),
  (955, oLdA 1 956),
  (956, oLdA 0 957),
  (957, oLdI 3 958)]
theorem ok218_16 : ∀ q ∈ pg218_16, Sim mT mt218 q.1 q.2 ∧ Grow q.2 :=
  List.forall_mem_cons.mpr ⟨⟨sim_aload_n d218_908 rfl, gr_LdA 2 909⟩,
  List.forall_mem_cons.mpr ⟨⟨sim_aload_n d218_909 rfl, gr_LdA 0 910⟩,
  List.forall_mem_cons.mpr ⟨⟨sim_iload_n d218_910 rfl, gr_LdI 3 911⟩,
  List.forall_mem_cons.mpr ⟨⟨sim_iconst d218_911 (by decide), gr_Push (.int 1) 912⟩,
  List.forall_mem_cons.mpr ⟨⟨sim_iadd d218_912, gr_II (fun x y => x + y) 913⟩,
  List.forall_mem_cons.mpr ⟨⟨sim_iaload d218_913, gr_ALdI 914⟩,
  List.forall_mem_cons.mpr ⟨⟨sim_virtual d218_914 vk186, gr_CalV (fun k => if k = 11 then some 200 else none) 1 917⟩,
  List.forall_mem_cons.mpr ⟨⟨sim_icmp_eq d218_917 (by decide), gr_Ic (fun x y => x = y) 1047 920⟩,
  List.forall_mem_cons.mpr ⟨⟨sim_iconst d218_920 (by decide), gr_Push (.int 0) 921⟩,
  List.forall_mem_cons.mpr ⟨⟨sim_nreturn d218_921 rfl (fun _ h => congrArg Value.int h), gr_RetN .boolean⟩,
  List.forall_mem_cons.mpr ⟨⟨sim_aload_n d218_922 rfl, gr_LdA 1 923⟩,
  List.forall_mem_cons.mpr ⟨⟨sim_aload_n d218_923 rfl, gr_LdA 0 924⟩,
  List.forall_mem_cons.mpr ⟨⟨sim_iload_n d218_924 rfl, gr_LdI 3 925⟩,
  List.forall_mem_cons.mpr ⟨⟨sim_iconst d218_925 (by decide), gr_Push (.int 1) 926⟩,
  List.forall_mem_cons.mpr ⟨⟨sim_iadd d218_926, gr_II (fun x y => x + y) 927⟩,
  List.forall_mem_cons.mpr ⟨⟨sim_iaload d218_927, gr_ALdI 928⟩,
  List.forall_mem_cons.mpr ⟨⟨sim_aload_n d218_928 rfl, gr_LdA 0 929⟩,
  List.forall_mem_cons.mpr ⟨⟨sim_iload_n d218_929 rfl, gr_LdI 3 930⟩,
  List.forall_mem_cons.mpr ⟨⟨sim_iconst d218_930 (by decide), gr_Push (.int 2) 931⟩,
  List.forall_mem_cons.mpr ⟨⟨sim_iadd d218_931, gr_II (fun x y => x + y) 932⟩,
  List.forall_mem_cons.mpr ⟨⟨sim_iaload d218_932, gr_ALdI 933⟩,
  List.forall_mem_cons.mpr ⟨⟨sim_virtual d218_933 vk187, gr_CalV (fun k => if k = 10 then some 104 else none) 2 936⟩,
  List.forall_mem_cons.mpr ⟨⟨sim_aload_n d218_936 rfl, gr_LdA 2 937⟩,
  List.forall_mem_cons.mpr ⟨⟨sim_aload_n d218_937 rfl, gr_LdA 0 938⟩,
  List.forall_mem_cons.mpr ⟨⟨sim_iload_n d218_938 rfl, gr_LdI 3 939⟩,
  List.forall_mem_cons.mpr ⟨⟨sim_iconst d218_939 (by decide), gr_Push (.int 1) 940⟩,
  List.forall_mem_cons.mpr ⟨⟨sim_iadd d218_940, gr_II (fun x y => x + y) 941⟩,
  List.forall_mem_cons.mpr ⟨⟨sim_iaload d218_941, gr_ALdI 942⟩,
  List.forall_mem_cons.mpr ⟨⟨sim_aload_n d218_942 rfl, gr_LdA 0 943⟩,
  List.forall_mem_cons.mpr ⟨⟨sim_iload_n d218_943 rfl, gr_LdI 3 944⟩,
  List.forall_mem_cons.mpr ⟨⟨sim_iconst d218_944 (by decide), gr_Push (.int 2) 945⟩,
  List.forall_mem_cons.mpr ⟨⟨sim_iadd d218_945, gr_II (fun x y => x + y) 946⟩,
  List.forall_mem_cons.mpr ⟨⟨sim_iaload d218_946, gr_ALdI 947⟩,
  List.forall_mem_cons.mpr ⟨⟨sim_virtual d218_947 vk188, gr_CalV (fun k => if k = 11 then some 201 else none) 2 950⟩,
  List.forall_mem_cons.mpr ⟨⟨sim_icmp_eq d218_950 (by decide), gr_Ic (fun x y => x = y) 1047 953⟩,
  List.forall_mem_cons.mpr ⟨⟨sim_iconst d218_953 (by decide), gr_Push (.int 0) 954⟩,
  List.forall_mem_cons.mpr ⟨⟨sim_nreturn d218_954 rfl (fun _ h => congrArg Value.int h), gr_RetN .boolean⟩,
  List.forall_mem_cons.mpr ⟨⟨sim_aload_n d218_955 rfl, gr_LdA 1 956⟩,
  List.forall_mem_cons.mpr ⟨⟨sim_aload_n d218_956 rfl, gr_LdA 0 957⟩,
  List.forall_mem_cons.mpr ⟨⟨sim_iload_n d218_957 rfl, gr_LdI 3 958⟩, fun _ h => absurd h List.not_mem_nil⟩⟩⟩⟩⟩⟩⟩⟩⟩⟩⟩⟩⟩⟩⟩⟩⟩⟩⟩⟩⟩⟩⟩⟩⟩⟩⟩⟩⟩⟩⟩⟩⟩⟩⟩⟩⟩⟩⟩⟩
noncomputable def pg218_17 : List (Nat × aP) := [(958, oPush (.int 1) 959),
  (959, oII (fun x y => x + y) 960),
  (960, oALdI 961),
  (961, oLdA 0 962),
  (962, oLdI 3 963),
  (963, oPush (.int 2) 964),
  (964, oII (fun x y => x + y) 965),
  (965, oALdI 966),
  (966, oCalV (fun k => if k = 10 then some 105 else none) 2 969),
  (969, oLdA 2 970),
  (970, oLdA 0 971),
  (971, oLdI 3 972),
  (972, oPush (.int 1) 973),
  (973, oII (fun x y => x + y) 974),
  (974, oALdI 975),
  (975, oLdA 0 976),
  (976, oLdI 3 977),
  (977, oPush (.int 2) 978),
  (978, oII (fun x y => x + y) 979),
  (979, oALdI 980),
  (980, oCalV (fun k => if k = 11 then some 206 else none) 2 983),
  (983, oIc (fun x y => x = y) 1047 986),
  (986, oPush (.int 0) 987),
  (987, oRetN .boolean),
  (988, oLdA 1 989),
  (989, oLdA 0 990),
  (990, oLdI 3 991),
  (991, oPush (.int 1) 992),
  (992, oII (fun x y => x + y) 993),
  (993, oALdI 994),
  (994, oCalV (fun k => if k = 10 then some 106 else none) 1 997),
  (997, oLdA 2 998),
  (998, oLdA 0 999),
  (999, oLdI 3 1000),
  (1000, oPush (.int 1) 1001),
  (1001, oII (fun x y => x + y) 1002),
  (1002, oALdI 1003),
  (1003, oCalV (fun k => if k = 11 then some 207 else none) 1 1006),
  (1006, oIc (fun x y => x = y) 1047 1009),
  (1009, oPush (.int 0) 1010)]
theorem ok218_17 : ∀ q ∈ pg218_17, Sim mT mt218 q.1 q.2 ∧ Grow q.2 :=
  List.forall_mem_cons.mpr ⟨⟨sim_iconst d218_958 (by decide), gr_Push (.int 1) 959⟩,
  List.forall_mem_cons.mpr ⟨⟨sim_iadd d218_959, gr_II (fun x y => x + y) 960⟩,
  List.forall_mem_cons.mpr ⟨⟨sim_iaload d218_960, gr_ALdI 961⟩,
  List.forall_mem_cons.mpr ⟨⟨sim_aload_n d218_961 rfl, gr_LdA 0 962⟩,
  List.forall_mem_cons.mpr ⟨⟨sim_iload_n d218_962 rfl, gr_LdI 3 963⟩,
  List.forall_mem_cons.mpr ⟨⟨sim_iconst d218_963 (by decide), gr_Push (.int 2) 964⟩,
  List.forall_mem_cons.mpr ⟨⟨sim_iadd d218_964, gr_II (fun x y => x + y) 965⟩,
  List.forall_mem_cons.mpr ⟨⟨sim_iaload d218_965, gr_ALdI 966⟩,
  List.forall_mem_cons.mpr ⟨⟨sim_virtual d218_966 vk189, gr_CalV (fun k => if k = 10 then some 105 else none) 2 969⟩,
  List.forall_mem_cons.mpr ⟨⟨sim_aload_n d218_969 rfl, gr_LdA 2 970⟩,
  List.forall_mem_cons.mpr ⟨⟨sim_aload_n d218_970 rfl, gr_LdA 0 971⟩,
  List.forall_mem_cons.mpr ⟨⟨sim_iload_n d218_971 rfl, gr_LdI 3 972⟩,
  List.forall_mem_cons.mpr ⟨⟨sim_iconst d218_972 (by decide), gr_Push (.int 1) 973⟩,
  List.forall_mem_cons.mpr ⟨⟨sim_iadd d218_973, gr_II (fun x y => x + y) 974⟩,
  List.forall_mem_cons.mpr ⟨⟨sim_iaload d218_974, gr_ALdI 975⟩,
  List.forall_mem_cons.mpr ⟨⟨sim_aload_n d218_975 rfl, gr_LdA 0 976⟩,
  List.forall_mem_cons.mpr ⟨⟨sim_iload_n d218_976 rfl, gr_LdI 3 977⟩,
  List.forall_mem_cons.mpr ⟨⟨sim_iconst d218_977 (by decide), gr_Push (.int 2) 978⟩,
  List.forall_mem_cons.mpr ⟨⟨sim_iadd d218_978, gr_II (fun x y => x + y) 979⟩,
  List.forall_mem_cons.mpr ⟨⟨sim_iaload d218_979, gr_ALdI 980⟩,
  List.forall_mem_cons.mpr ⟨⟨sim_virtual d218_980 vk190, gr_CalV (fun k => if k = 11 then some 206 else none) 2 983⟩,
  List.forall_mem_cons.mpr ⟨⟨sim_icmp_eq d218_983 (by decide), gr_Ic (fun x y => x = y) 1047 986⟩,
  List.forall_mem_cons.mpr ⟨⟨sim_iconst d218_986 (by decide), gr_Push (.int 0) 987⟩,
  List.forall_mem_cons.mpr ⟨⟨sim_nreturn d218_987 rfl (fun _ h => congrArg Value.int h), gr_RetN .boolean⟩,
  List.forall_mem_cons.mpr ⟨⟨sim_aload_n d218_988 rfl, gr_LdA 1 989⟩,
  List.forall_mem_cons.mpr ⟨⟨sim_aload_n d218_989 rfl, gr_LdA 0 990⟩,
  List.forall_mem_cons.mpr ⟨⟨sim_iload_n d218_990 rfl, gr_LdI 3 991⟩,
  List.forall_mem_cons.mpr ⟨⟨sim_iconst d218_991 (by decide), gr_Push (.int 1) 992⟩,
  List.forall_mem_cons.mpr ⟨⟨sim_iadd d218_992, gr_II (fun x y => x + y) 993⟩,
  List.forall_mem_cons.mpr ⟨⟨sim_iaload d218_993, gr_ALdI 994⟩,
  List.forall_mem_cons.mpr ⟨⟨sim_virtual d218_994 vk191, gr_CalV (fun k => if k = 10 then some 106 else none) 1 997⟩,
  List.forall_mem_cons.mpr ⟨⟨sim_aload_n d218_997 rfl, gr_LdA 2 998⟩,
  List.forall_mem_cons.mpr ⟨⟨sim_aload_n d218_998 rfl, gr_LdA 0 999⟩,
  List.forall_mem_cons.mpr ⟨⟨sim_iload_n d218_999 rfl, gr_LdI 3 1000⟩,
  List.forall_mem_cons.mpr ⟨⟨sim_iconst d218_1000 (by decide), gr_Push (.int 1) 1001⟩,
  List.forall_mem_cons.mpr ⟨⟨sim_iadd d218_1001, gr_II (fun x y => x + y) 1002⟩,
  List.forall_mem_cons.mpr ⟨⟨sim_iaload d218_1002, gr_ALdI 1003⟩,
  List.forall_mem_cons.mpr ⟨⟨sim_virtual d218_1003 vk192, gr_CalV (fun k => if k = 11 then some 207 else none) 1 1006⟩,
  List.forall_mem_cons.mpr ⟨⟨sim_icmp_eq d218_1006 (by decide), gr_Ic (fun x y => x = y) 1047 1009⟩,
  List.forall_mem_cons.mpr ⟨⟨sim_iconst d218_1009 (by decide), gr_Push (.int 0) 1010⟩, fun _ h => absurd h List.not_mem_nil⟩⟩⟩⟩⟩⟩⟩⟩⟩⟩⟩⟩⟩⟩⟩⟩⟩⟩⟩⟩⟩⟩⟩⟩⟩⟩⟩⟩⟩⟩⟩⟩⟩⟩⟩⟩⟩⟩⟩⟩
noncomputable def pg218_18 : List (Nat × aP) := [(1010, oRetN .boolean),
  (1011, oLdA 1 1012),
  (1012, oLdA 0 1013),
  (1013, oLdI 3 1014),
  (1014, oPush (.int 1) 1015),
  (1015, oII (fun x y => x + y) 1016),
  (1016, oALdI 1017),
  (1017, oCalV (fun k => if k = 10 then some 107 else none) 1 1020),
  (1020, oLdA 2 1021),
  (1021, oLdA 0 1022),
  (1022, oLdI 3 1023),
  (1023, oPush (.int 1) 1024),
  (1024, oII (fun x y => x + y) 1025),
  (1025, oALdI 1026),
  (1026, oCalV (fun k => if k = 11 then some 208 else none) 1 1029),
  (1029, oIc (fun x y => x = y) 1047 1032),
  (1032, oPush (.int 0) 1033),
  (1033, oRetN .boolean),
  (1034, oLdA 1 1035),
  (1035, oCalV (fun k => if k = 10 then some 108 else none) 0 1038),
  (1038, oLdA 2 1039),
  (1039, oCalV (fun k => if k = 11 then some 209 else none) 0 1042),
  (1042, oIc (fun x y => x = y) 1047 1045),
  (1045, oPush (.int 0) 1046),
  (1046, oRetN .boolean),
  (1047, oInc 3 6 1050),
  (1050, oGo 18),
  (1053, oPush (.int 1) 1054),
  (1054, oRetN .boolean)]
theorem ok218_18 : ∀ q ∈ pg218_18, Sim mT mt218 q.1 q.2 ∧ Grow q.2 :=
  List.forall_mem_cons.mpr ⟨⟨sim_nreturn d218_1010 rfl (fun _ h => congrArg Value.int h), gr_RetN .boolean⟩,
  List.forall_mem_cons.mpr ⟨⟨sim_aload_n d218_1011 rfl, gr_LdA 1 1012⟩,
  List.forall_mem_cons.mpr ⟨⟨sim_aload_n d218_1012 rfl, gr_LdA 0 1013⟩,
  List.forall_mem_cons.mpr ⟨⟨sim_iload_n d218_1013 rfl, gr_LdI 3 1014⟩,
  List.forall_mem_cons.mpr ⟨⟨sim_iconst d218_1014 (by decide), gr_Push (.int 1) 1015⟩,
  List.forall_mem_cons.mpr ⟨⟨sim_iadd d218_1015, gr_II (fun x y => x + y) 1016⟩,
  List.forall_mem_cons.mpr ⟨⟨sim_iaload d218_1016, gr_ALdI 1017⟩,
  List.forall_mem_cons.mpr ⟨⟨sim_virtual d218_1017 vk193, gr_CalV (fun k => if k = 10 then some 107 else none) 1 1020⟩,
  List.forall_mem_cons.mpr ⟨⟨sim_aload_n d218_1020 rfl, gr_LdA 2 1021⟩,
  List.forall_mem_cons.mpr ⟨⟨sim_aload_n d218_1021 rfl, gr_LdA 0 1022⟩,
  List.forall_mem_cons.mpr ⟨⟨sim_iload_n d218_1022 rfl, gr_LdI 3 1023⟩,
  List.forall_mem_cons.mpr ⟨⟨sim_iconst d218_1023 (by decide), gr_Push (.int 1) 1024⟩,
  List.forall_mem_cons.mpr ⟨⟨sim_iadd d218_1024, gr_II (fun x y => x + y) 1025⟩,
  List.forall_mem_cons.mpr ⟨⟨sim_iaload d218_1025, gr_ALdI 1026⟩,
  List.forall_mem_cons.mpr ⟨⟨sim_virtual d218_1026 vk194, gr_CalV (fun k => if k = 11 then some 208 else none) 1 1029⟩,
  List.forall_mem_cons.mpr ⟨⟨sim_icmp_eq d218_1029 (by decide), gr_Ic (fun x y => x = y) 1047 1032⟩,
  List.forall_mem_cons.mpr ⟨⟨sim_iconst d218_1032 (by decide), gr_Push (.int 0) 1033⟩,
  List.forall_mem_cons.mpr ⟨⟨sim_nreturn d218_1033 rfl (fun _ h => congrArg Value.int h), gr_RetN .boolean⟩,
  List.forall_mem_cons.mpr ⟨⟨sim_aload_n d218_1034 rfl, gr_LdA 1 1035⟩,
  List.forall_mem_cons.mpr ⟨⟨sim_virtual d218_1035 vk195, gr_CalV (fun k => if k = 10 then some 108 else none) 0 1038⟩,
  List.forall_mem_cons.mpr ⟨⟨sim_aload_n d218_1038 rfl, gr_LdA 2 1039⟩,
  List.forall_mem_cons.mpr ⟨⟨sim_virtual d218_1039 vk196, gr_CalV (fun k => if k = 11 then some 209 else none) 0 1042⟩,
  List.forall_mem_cons.mpr ⟨⟨sim_icmp_eq d218_1042 (by decide), gr_Ic (fun x y => x = y) 1047 1045⟩,
  List.forall_mem_cons.mpr ⟨⟨sim_iconst d218_1045 (by decide), gr_Push (.int 0) 1046⟩,
  List.forall_mem_cons.mpr ⟨⟨sim_nreturn d218_1046 rfl (fun _ h => congrArg Value.int h), gr_RetN .boolean⟩,
  List.forall_mem_cons.mpr ⟨⟨sim_iinc d218_1047 (by decide) (by decide), gr_Inc 3 6 1050⟩,
  List.forall_mem_cons.mpr ⟨⟨sim_goto d218_1050 (by decide), gr_Go 18⟩,
  List.forall_mem_cons.mpr ⟨⟨sim_iconst d218_1053 (by decide), gr_Push (.int 1) 1054⟩,
  List.forall_mem_cons.mpr ⟨⟨sim_nreturn d218_1054 rfl (fun _ h => congrArg Value.int h), gr_RetN .boolean⟩, fun _ h => absurd h List.not_mem_nil⟩⟩⟩⟩⟩⟩⟩⟩⟩⟩⟩⟩⟩⟩⟩⟩⟩⟩⟩⟩⟩⟩⟩⟩⟩⟩⟩⟩⟩
noncomputable def pg218 : List (Nat × aP) := pg218_0 ++ (pg218_1 ++ (pg218_2 ++ (pg218_3 ++ (pg218_4 ++ (pg218_5 ++ (pg218_6 ++ (pg218_7 ++ (pg218_8 ++ (pg218_9 ++ (pg218_10 ++ (pg218_11 ++ (pg218_12 ++ (pg218_13 ++ (pg218_14 ++ (pg218_15 ++ (pg218_16 ++ (pg218_17 ++ (pg218_18))))))))))))))))))
theorem ok218 : ∀ q ∈ pg218, Sim mT mt218 q.1 q.2 ∧ Grow q.2 := List.forall_mem_append.mpr ⟨ok218_0, List.forall_mem_append.mpr ⟨ok218_1, List.forall_mem_append.mpr ⟨ok218_2, List.forall_mem_append.mpr ⟨ok218_3, List.forall_mem_append.mpr ⟨ok218_4, List.forall_mem_append.mpr ⟨ok218_5, List.forall_mem_append.mpr ⟨ok218_6, List.forall_mem_append.mpr ⟨ok218_7, List.forall_mem_append.mpr ⟨ok218_8, List.forall_mem_append.mpr ⟨ok218_9, List.forall_mem_append.mpr ⟨ok218_10, List.forall_mem_append.mpr ⟨ok218_11, List.forall_mem_append.mpr ⟨ok218_12, List.forall_mem_append.mpr ⟨ok218_13, List.forall_mem_append.mpr ⟨ok218_14, List.forall_mem_append.mpr ⟨ok218_15, List.forall_mem_append.mpr ⟨ok218_16, List.forall_mem_append.mpr ⟨ok218_17, ok218_18⟩⟩⟩⟩⟩⟩⟩⟩⟩⟩⟩⟩⟩⟩⟩⟩⟩⟩
